theorem dMd_init_0 : decode cMd_init 0 = .ok (.aload_n 0, 1) := by decide +kernel
theorem dMd_init_1 : decode cMd_init 1 = .ok (.invokespecial 1, 3) := by decide +kernel
theorem dMd_init_4 : decode cMd_init 4 = .ok (.aload_n 0, 1) := by decide +kernel
theorem dMd_init_5 : decode cMd_init 5 = .ok (.ldc 7, 2) := by decide +kernel
theorem dMd_init_7 : decode cMd_init 7 = .ok (.newarray .byte, 2) := by decide +kernel
theorem dMd_init_9 : decode cMd_init 9 = .ok (.putfield 8, 3) := by decide +kernel
theorem dMd_init_12 : decode cMd_init 12 = .ok (.aload_n 0, 1) := by decide +kernel
theorem dMd_init_13 : decode cMd_init 13 = .ok (.ldc 7, 2) := by decide +kernel
theorem dMd_init_15 : decode cMd_init 15 = .ok (.newarray .byte, 2) := by decide +kernel
theorem dMd_init_17 : decode cMd_init 17 = .ok (.putfield 14, 3) := by decide +kernel
theorem dMd_init_20 : decode cMd_init 20 = .ok (.aload_n 0, 1) := by decide +kernel
theorem dMd_init_21 : decode cMd_init 21 = .ok (.sipush 16384, 3) := by decide +kernel
theorem dMd_init_24 : decode cMd_init 24 = .ok (.newarray .byte, 2) := by decide +kernel
theorem dMd_init_26 : decode cMd_init 26 = .ok (.putfield 17, 3) := by decide +kernel
theorem dMd_init_29 : decode cMd_init 29 = .ok (.aload_n 0, 1) := by decide +kernel
theorem dMd_init_30 : decode cMd_init 30 = .ok (.ldc 20, 2) := by decide +kernel
theorem dMd_init_32 : decode cMd_init 32 = .ok (.newarray .byte, 2) := by decide +kernel
theorem dMd_init_34 : decode cMd_init 34 = .ok (.putfield 21, 3) := by decide +kernel
theorem dMd_init_37 : decode cMd_init 37 = .ok (.aload_n 0, 1) := by decide +kernel
theorem dMd_init_38 : decode cMd_init 38 = .ok (.iconst 3, 1) := by decide +kernel
theorem dMd_init_39 : decode cMd_init 39 = .ok (.newarray .int, 2) := by decide +kernel
theorem dMd_init_41 : decode cMd_init 41 = .ok (.putfield 24, 3) := by decide +kernel
theorem dMd_init_44 : decode cMd_init 44 = .ok (.aload_n 0, 1) := by decide +kernel
theorem dMd_init_45 : decode cMd_init 45 = .ok (.iconst 3, 1) := by decide +kernel
theorem dMd_init_46 : decode cMd_init 46 = .ok (.newarray .int, 2) := by decide +kernel
theorem dMd_init_48 : decode cMd_init 48 = .ok (.putfield 28, 3) := by decide +kernel
theorem dMd_init_51 : decode cMd_init 51 = .ok (.aload_n 0, 1) := by decide +kernel
theorem dMd_init_52 : decode cMd_init 52 = .ok (.ldc 31, 2) := by decide +kernel
theorem dMd_init_54 : decode cMd_init 54 = .ok (.newarray .byte, 2) := by decide +kernel
theorem dMd_init_56 : decode cMd_init 56 = .ok (.putfield 32, 3) := by decide +kernel
theorem dMd_init_59 : decode cMd_init 59 = .ok (.aload_n 0, 1) := by decide +kernel
theorem dMd_init_60 : decode cMd_init 60 = .ok (.bipush 64, 2) := by decide +kernel
theorem dMd_init_62 : decode cMd_init 62 = .ok (.newarray .byte, 2) := by decide +kernel
theorem dMd_init_64 : decode cMd_init 64 = .ok (.putfield 35, 3) := by decide +kernel
theorem dMd_init_67 : decode cMd_init 67 = .ok (.aload_n 0, 1) := by decide +kernel
theorem dMd_init_68 : decode cMd_init 68 = .ok (.bipush 64, 2) := by decide +kernel
theorem dMd_init_70 : decode cMd_init 70 = .ok (.newarray .byte, 2) := by decide +kernel
theorem dMd_init_72 : decode cMd_init 72 = .ok (.putfield 38, 3) := by decide +kernel
theorem dMd_init_75 : decode cMd_init 75 = .ok (.aload_n 0, 1) := by decide +kernel
theorem dMd_init_76 : decode cMd_init 76 = .ok (.sipush 128, 3) := by decide +kernel
theorem dMd_init_79 : decode cMd_init 79 = .ok (.newarray .byte, 2) := by decide +kernel
theorem dMd_init_81 : decode cMd_init 81 = .ok (.putfield 41, 3) := by decide +kernel
theorem dMd_init_84 : decode cMd_init 84 = .ok (.aload_n 0, 1) := by decide +kernel
theorem dMd_init_85 : decode cMd_init 85 = .ok (.bipush 80, 2) := by decide +kernel
theorem dMd_init_87 : decode cMd_init 87 = .ok (.newarray .long, 2) := by decide +kernel
theorem dMd_init_89 : decode cMd_init 89 = .ok (.putfield 44, 3) := by decide +kernel
theorem dMd_init_92 : decode cMd_init 92 = .ok (.aload_n 0, 1) := by decide +kernel
theorem dMd_init_93 : decode cMd_init 93 = .ok (.bipush 24, 2) := by decide +kernel
theorem dMd_init_95 : decode cMd_init 95 = .ok (.newarray .long, 2) := by decide +kernel
theorem dMd_init_97 : decode cMd_init 97 = .ok (.putfield 48, 3) := by decide +kernel
theorem dMd_init_100 : decode cMd_init 100 = .ok (.aload_n 0, 1) := by decide +kernel
theorem dMd_init_101 : decode cMd_init 101 = .ok (.bipush 80, 2) := by decide +kernel
theorem dMd_init_103 : decode cMd_init 103 = .ok (.newarray .long, 2) := by decide +kernel
theorem dMd_init_105 : decode cMd_init 105 = .ok (.putfield 51, 3) := by decide +kernel
theorem dMd_init_108 : decode cMd_init 108 = .ok (.aload_n 0, 1) := by decide +kernel
theorem dMd_init_109 : decode cMd_init 109 = .ok (.bipush 8, 2) := by decide +kernel
theorem dMd_init_111 : decode cMd_init 111 = .ok (.newarray .long, 2) := by decide +kernel
theorem dMd_init_113 : decode cMd_init 113 = .ok (.putfield 54, 3) := by decide +kernel
theorem dMd_init_116 : decode cMd_init 116 = .ok (.aload_n 0, 1) := by decide +kernel
theorem dMd_init_117 : decode cMd_init 117 = .ok (.bipush 8, 2) := by decide +kernel
theorem dMd_init_119 : decode cMd_init 119 = .ok (.newarray .long, 2) := by decide +kernel
theorem dMd_init_121 : decode cMd_init 121 = .ok (.putfield 57, 3) := by decide +kernel
theorem dMd_init_124 : decode cMd_init 124 = .ok (.aload_n 0, 1) := by decide +kernel
theorem dMd_init_125 : decode cMd_init 125 = .ok (.bipush 8, 2) := by decide +kernel
theorem dMd_init_127 : decode cMd_init 127 = .ok (.newarray .long, 2) := by decide +kernel
theorem dMd_init_129 : decode cMd_init 129 = .ok (.putfield 60, 3) := by decide +kernel
theorem dMd_init_132 : decode cMd_init 132 = .ok (.iconst 1, 1) := by decide +kernel
theorem dMd_init_133 : decode cMd_init 133 = .ok (.istore_n 1, 1) := by decide +kernel
theorem dMd_init_134 : decode cMd_init 134 = .ok (.iconst 0, 1) := by decide +kernel
theorem dMd_init_135 : decode cMd_init 135 = .ok (.istore_n 2, 1) := by decide +kernel
theorem dMd_init_136 : decode cMd_init 136 = .ok (.iload_n 2, 1) := by decide +kernel
theorem dMd_init_137 : decode cMd_init 137 = .ok (.bipush 80, 2) := by decide +kernel
theorem dMd_init_139 : decode cMd_init 139 = .ok (.if_icmp .ge 89, 3) := by decide +kernel
theorem dMd_init_142 : decode cMd_init 142 = .ok (.iload_n 1, 1) := by decide +kernel
theorem dMd_init_143 : decode cMd_init 143 = .ok (.invokestatic 63, 3) := by decide +kernel
theorem dMd_init_146 : decode cMd_init 146 = .ok (.istore_n 1, 1) := by decide +kernel
theorem dMd_init_147 : decode cMd_init 147 = .ok (.aload_n 0, 1) := by decide +kernel
theorem dMd_init_148 : decode cMd_init 148 = .ok (.getfield 44, 3) := by decide +kernel
theorem dMd_init_151 : decode cMd_init 151 = .ok (.iload_n 2, 1) := by decide +kernel
theorem dMd_init_152 : decode cMd_init 152 = .ok (.aload_n 0, 1) := by decide +kernel
theorem dMd_init_153 : decode cMd_init 153 = .ok (.iload_n 1, 1) := by decide +kernel
theorem dMd_init_154 : decode cMd_init 154 = .ok (.iconst 3, 1) := by decide +kernel
theorem dMd_init_155 : decode cMd_init 155 = .ok (.invokevirtual 67, 3) := by decide +kernel
theorem dMd_init_158 : decode cMd_init 158 = .ok (.lastore, 1) := by decide +kernel
theorem dMd_init_159 : decode cMd_init 159 = .ok (.iload_n 2, 1) := by decide +kernel
theorem dMd_init_160 : decode cMd_init 160 = .ok (.bipush 8, 2) := by decide +kernel
theorem dMd_init_162 : decode cMd_init 162 = .ok (.if_icmp .ge 36, 3) := by decide +kernel
theorem dMd_init_165 : decode cMd_init 165 = .ok (.aload_n 0, 1) := by decide +kernel
theorem dMd_init_166 : decode cMd_init 166 = .ok (.getfield 48, 3) := by decide +kernel
theorem dMd_init_169 : decode cMd_init 169 = .ok (.bipush 16, 2) := by decide +kernel
theorem dMd_init_171 : decode cMd_init 171 = .ok (.iload_n 2, 1) := by decide +kernel
theorem dMd_init_172 : decode cMd_init 172 = .ok (.iadd, 1) := by decide +kernel
theorem dMd_init_173 : decode cMd_init 173 = .ok (.aload_n 0, 1) := by decide +kernel
theorem dMd_init_174 : decode cMd_init 174 = .ok (.iload_n 1, 1) := by decide +kernel
theorem dMd_init_175 : decode cMd_init 175 = .ok (.iconst 2, 1) := by decide +kernel
theorem dMd_init_176 : decode cMd_init 176 = .ok (.invokevirtual 67, 3) := by decide +kernel
theorem dMd_init_179 : decode cMd_init 179 = .ok (.lastore, 1) := by decide +kernel
theorem dMd_init_180 : decode cMd_init 180 = .ok (.aload_n 0, 1) := by decide +kernel
theorem dMd_init_181 : decode cMd_init 181 = .ok (.getfield 48, 3) := by decide +kernel
theorem dMd_init_184 : decode cMd_init 184 = .ok (.iload_n 2, 1) := by decide +kernel
theorem dMd_init_185 : decode cMd_init 185 = .ok (.aload_n 0, 1) := by decide +kernel
theorem dMd_init_186 : decode cMd_init 186 = .ok (.getfield 48, 3) := by decide +kernel
theorem dMd_init_189 : decode cMd_init 189 = .ok (.bipush 16, 2) := by decide +kernel
theorem dMd_init_191 : decode cMd_init 191 = .ok (.iload_n 2, 1) := by decide +kernel
theorem dMd_init_192 : decode cMd_init 192 = .ok (.iadd, 1) := by decide +kernel
theorem dMd_init_193 : decode cMd_init 193 = .ok (.laload, 1) := by decide +kernel
theorem dMd_init_194 : decode cMd_init 194 = .ok (.bipush 32, 2) := by decide +kernel
theorem dMd_init_196 : decode cMd_init 196 = .ok (.lushr, 1) := by decide +kernel
theorem dMd_init_197 : decode cMd_init 197 = .ok (.lastore, 1) := by decide +kernel
theorem dMd_init_198 : decode cMd_init 198 = .ok (.iload_n 2, 1) := by decide +kernel
theorem dMd_init_199 : decode cMd_init 199 = .ok (.bipush 8, 2) := by decide +kernel
theorem dMd_init_201 : decode cMd_init 201 = .ok (.if_icmp .lt 21, 3) := by decide +kernel
theorem dMd_init_204 : decode cMd_init 204 = .ok (.iload_n 2, 1) := by decide +kernel
theorem dMd_init_205 : decode cMd_init 205 = .ok (.bipush 16, 2) := by decide +kernel
theorem dMd_init_207 : decode cMd_init 207 = .ok (.if_icmp .ge 15, 3) := by decide +kernel
theorem dMd_init_210 : decode cMd_init 210 = .ok (.aload_n 0, 1) := by decide +kernel
theorem dMd_init_211 : decode cMd_init 211 = .ok (.getfield 48, 3) := by decide +kernel
theorem dMd_init_214 : decode cMd_init 214 = .ok (.iload_n 2, 1) := by decide +kernel
theorem dMd_init_215 : decode cMd_init 215 = .ok (.aload_n 0, 1) := by decide +kernel
theorem dMd_init_216 : decode cMd_init 216 = .ok (.iload_n 1, 1) := by decide +kernel
theorem dMd_init_217 : decode cMd_init 217 = .ok (.iconst 2, 1) := by decide +kernel
theorem dMd_init_218 : decode cMd_init 218 = .ok (.invokevirtual 67, 3) := by decide +kernel
theorem dMd_init_221 : decode cMd_init 221 = .ok (.lastore, 1) := by decide +kernel
theorem dMd_init_222 : decode cMd_init 222 = .ok (.iinc 2 1, 3) := by decide +kernel
theorem dMd_init_225 : decode cMd_init 225 = .ok (.goto (-89), 3) := by decide +kernel
theorem dMd_init_228 : decode cMd_init 228 = .ok (.return_, 1) := by decide +kernel
theorem dMd_block_0 : decode cMd_block 0 = .ok (.iload_n 0, 1) := by decide +kernel
theorem dMd_block_1 : decode cMd_block 1 = .ok (.ifCond .ne 8, 3) := by decide +kernel
theorem dMd_block_4 : decode cMd_block 4 = .ok (.bipush 64, 2) := by decide +kernel
theorem dMd_block_6 : decode cMd_block 6 = .ok (.goto 6, 3) := by decide +kernel
theorem dMd_block_9 : decode cMd_block 9 = .ok (.sipush 128, 3) := by decide +kernel
theorem dMd_block_12 : decode cMd_block 12 = .ok (.ireturn, 1) := by decide +kernel
theorem dMd_blocksOf_0 : decode cMd_blocksOf 0 = .ok (.iload_n 0, 1) := by decide +kernel
theorem dMd_blocksOf_1 : decode cMd_blocksOf 1 = .ok (.invokestatic 85, 3) := by decide +kernel
theorem dMd_blocksOf_4 : decode cMd_blocksOf 4 = .ok (.istore_n 2, 1) := by decide +kernel
theorem dMd_blocksOf_5 : decode cMd_blocksOf 5 = .ok (.iload_n 1, 1) := by decide +kernel
theorem dMd_blocksOf_6 : decode cMd_blocksOf 6 = .ok (.iconst 1, 1) := by decide +kernel
theorem dMd_blocksOf_7 : decode cMd_blocksOf 7 = .ok (.iadd, 1) := by decide +kernel
theorem dMd_blocksOf_8 : decode cMd_blocksOf 8 = .ok (.iload_n 2, 1) := by decide +kernel
theorem dMd_blocksOf_9 : decode cMd_blocksOf 9 = .ok (.bipush 8, 2) := by decide +kernel
theorem dMd_blocksOf_11 : decode cMd_blocksOf 11 = .ok (.idiv, 1) := by decide +kernel
theorem dMd_blocksOf_12 : decode cMd_blocksOf 12 = .ok (.iadd, 1) := by decide +kernel
theorem dMd_blocksOf_13 : decode cMd_blocksOf 13 = .ok (.iload_n 2, 1) := by decide +kernel
theorem dMd_blocksOf_14 : decode cMd_blocksOf 14 = .ok (.iadd, 1) := by decide +kernel
theorem dMd_blocksOf_15 : decode cMd_blocksOf 15 = .ok (.iconst 1, 1) := by decide +kernel
theorem dMd_blocksOf_16 : decode cMd_blocksOf 16 = .ok (.isub, 1) := by decide +kernel
theorem dMd_blocksOf_17 : decode cMd_blocksOf 17 = .ok (.iload_n 2, 1) := by decide +kernel
theorem dMd_blocksOf_18 : decode cMd_blocksOf 18 = .ok (.idiv, 1) := by decide +kernel
theorem dMd_blocksOf_19 : decode cMd_blocksOf 19 = .ok (.ireturn, 1) := by decide +kernel
theorem dMd_count_0 : decode cMd_count 0 = .ok (.aload_n 0, 1) := by decide +kernel
theorem dMd_count_1 : decode cMd_count 1 = .ok (.iconst 0, 1) := by decide +kernel
theorem dMd_count_2 : decode cMd_count 2 = .ok (.putfield 71, 3) := by decide +kernel
theorem dMd_count_5 : decode cMd_count 5 = .ok (.iload_n 1, 1) := by decide +kernel
theorem dMd_count_6 : decode cMd_count 6 = .ok (.tableswitch 62 0 5 #[38, 43, 48, 53, 53, 53], 38) := by decide +kernel
theorem dMd_count_44 : decode cMd_count 44 = .ok (.aload_n 0, 1) := by decide +kernel
theorem dMd_count_45 : decode cMd_count 45 = .ok (.getfield 132, 3) := by decide +kernel
theorem dMd_count_48 : decode cMd_count 48 = .ok (.ireturn, 1) := by decide +kernel
theorem dMd_count_49 : decode cMd_count 49 = .ok (.aload_n 0, 1) := by decide +kernel
theorem dMd_count_50 : decode cMd_count 50 = .ok (.getfield 125, 3) := by decide +kernel
theorem dMd_count_53 : decode cMd_count 53 = .ok (.ireturn, 1) := by decide +kernel
theorem dMd_count_54 : decode cMd_count 54 = .ok (.aload_n 0, 1) := by decide +kernel
theorem dMd_count_55 : decode cMd_count 55 = .ok (.getfield 144, 3) := by decide +kernel
theorem dMd_count_58 : decode cMd_count 58 = .ok (.ireturn, 1) := by decide +kernel
theorem dMd_count_59 : decode cMd_count 59 = .ok (.aload_n 0, 1) := by decide +kernel
theorem dMd_count_60 : decode cMd_count 60 = .ok (.getfield 28, 3) := by decide +kernel
theorem dMd_count_63 : decode cMd_count 63 = .ok (.iload_n 1, 1) := by decide +kernel
theorem dMd_count_64 : decode cMd_count 64 = .ok (.iconst 3, 1) := by decide +kernel
theorem dMd_count_65 : decode cMd_count 65 = .ok (.isub, 1) := by decide +kernel
theorem dMd_count_66 : decode cMd_count 66 = .ok (.iaload, 1) := by decide +kernel
theorem dMd_count_67 : decode cMd_count 67 = .ok (.ireturn, 1) := by decide +kernel
theorem dMd_count_68 : decode cMd_count 68 = .ok (.iconst (-1), 1) := by decide +kernel
theorem dMd_count_69 : decode cMd_count 69 = .ok (.ireturn, 1) := by decide +kernel
theorem dMd_end_0 : decode cMd_end 0 = .ok (.aload_n 0, 1) := by decide +kernel
theorem dMd_end_1 : decode cMd_end 1 = .ok (.iconst 0, 1) := by decide +kernel
theorem dMd_end_2 : decode cMd_end 2 = .ok (.putfield 71, 3) := by decide +kernel
theorem dMd_end_5 : decode cMd_end 5 = .ok (.iload_n 1, 1) := by decide +kernel
theorem dMd_end_6 : decode cMd_end 6 = .ok (.ifCond .lt 11, 3) := by decide +kernel
theorem dMd_end_9 : decode cMd_end 9 = .ok (.iload_n 1, 1) := by decide +kernel
theorem dMd_end_10 : decode cMd_end 10 = .ok (.aload_n 0, 1) := by decide +kernel
theorem dMd_end_11 : decode cMd_end 11 = .ok (.getfield 132, 3) := by decide +kernel
theorem dMd_end_14 : decode cMd_end 14 = .ok (.if_icmp .le 9, 3) := by decide +kernel
theorem dMd_end_17 : decode cMd_end 17 = .ok (.aload_n 0, 1) := by decide +kernel
theorem dMd_end_18 : decode cMd_end 18 = .ok (.iconst 1, 1) := by decide +kernel
theorem dMd_end_19 : decode cMd_end 19 = .ok (.invokevirtual 136, 3) := by decide +kernel
theorem dMd_end_22 : decode cMd_end 22 = .ok (.ireturn, 1) := by decide +kernel
theorem dMd_end_23 : decode cMd_end 23 = .ok (.aload_n 0, 1) := by decide +kernel
theorem dMd_end_24 : decode cMd_end 24 = .ok (.iload_n 1, 1) := by decide +kernel
theorem dMd_end_25 : decode cMd_end 25 = .ok (.putfield 132, 3) := by decide +kernel
theorem dMd_end_28 : decode cMd_end 28 = .ok (.iload_n 1, 1) := by decide +kernel
theorem dMd_end_29 : decode cMd_end 29 = .ok (.ireturn, 1) := by decide +kernel
theorem dMd_expand_0 : decode cMd_expand 0 = .ok (.aload_n 0, 1) := by decide +kernel
theorem dMd_expand_1 : decode cMd_expand 1 = .ok (.iconst 0, 1) := by decide +kernel
theorem dMd_expand_2 : decode cMd_expand 2 = .ok (.putfield 71, 3) := by decide +kernel
theorem dMd_expand_5 : decode cMd_expand 5 = .ok (.iload_n 1, 1) := by decide +kernel
theorem dMd_expand_6 : decode cMd_expand 6 = .ok (.invokestatic 139, 3) := by decide +kernel
theorem dMd_expand_9 : decode cMd_expand 9 = .ok (.ifCond .eq 9, 3) := by decide +kernel
theorem dMd_expand_12 : decode cMd_expand 12 = .ok (.aload_n 0, 1) := by decide +kernel
theorem dMd_expand_13 : decode cMd_expand 13 = .ok (.iconst 1, 1) := by decide +kernel
theorem dMd_expand_14 : decode cMd_expand 14 = .ok (.invokevirtual 136, 3) := by decide +kernel
theorem dMd_expand_17 : decode cMd_expand 17 = .ok (.ireturn, 1) := by decide +kernel
theorem dMd_expand_18 : decode cMd_expand 18 = .ok (.iload_n 2, 1) := by decide +kernel
theorem dMd_expand_19 : decode cMd_expand 19 = .ok (.iconst 1, 1) := by decide +kernel
theorem dMd_expand_20 : decode cMd_expand 20 = .ok (.if_icmp .lt 15, 3) := by decide +kernel
theorem dMd_expand_23 : decode cMd_expand 23 = .ok (.iload_n 2, 1) := by decide +kernel
theorem dMd_expand_24 : decode cMd_expand 24 = .ok (.sipush 255, 3) := by decide +kernel
theorem dMd_expand_27 : decode cMd_expand 27 = .ok (.iload_n 1, 1) := by decide +kernel
theorem dMd_expand_28 : decode cMd_expand 28 = .ok (.invokestatic 109, 3) := by decide +kernel
theorem dMd_expand_31 : decode cMd_expand 31 = .ok (.imul, 1) := by decide +kernel
theorem dMd_expand_32 : decode cMd_expand 32 = .ok (.if_icmp .le 9, 3) := by decide +kernel
theorem dMd_expand_35 : decode cMd_expand 35 = .ok (.aload_n 0, 1) := by decide +kernel
theorem dMd_expand_36 : decode cMd_expand 36 = .ok (.iconst 2, 1) := by decide +kernel
theorem dMd_expand_37 : decode cMd_expand 37 = .ok (.invokevirtual 136, 3) := by decide +kernel
theorem dMd_expand_40 : decode cMd_expand 40 = .ok (.ireturn, 1) := by decide +kernel
theorem dMd_expand_41 : decode cMd_expand 41 = .ok (.aload_n 0, 1) := by decide +kernel
theorem dMd_expand_42 : decode cMd_expand 42 = .ok (.iload_n 1, 1) := by decide +kernel
theorem dMd_expand_43 : decode cMd_expand 43 = .ok (.iload_n 2, 1) := by decide +kernel
theorem dMd_expand_44 : decode cMd_expand 44 = .ok (.invokevirtual 155, 3) := by decide +kernel
theorem dMd_expand_47 : decode cMd_expand 47 = .ok (.ireturn, 1) := by decide +kernel
theorem dMd_expandLabel_0 : decode cMd_expandLabel 0 = .ok (.aload_n 0, 1) := by decide +kernel
theorem dMd_expandLabel_1 : decode cMd_expandLabel 1 = .ok (.iconst 0, 1) := by decide +kernel
theorem dMd_expandLabel_2 : decode cMd_expandLabel 2 = .ok (.putfield 71, 3) := by decide +kernel
theorem dMd_expandLabel_5 : decode cMd_expandLabel 5 = .ok (.iload_n 1, 1) := by decide +kernel
theorem dMd_expandLabel_6 : decode cMd_expandLabel 6 = .ok (.invokestatic 139, 3) := by decide +kernel
theorem dMd_expandLabel_9 : decode cMd_expandLabel 9 = .ok (.ifCond .eq 9, 3) := by decide +kernel
theorem dMd_expandLabel_12 : decode cMd_expandLabel 12 = .ok (.aload_n 0, 1) := by decide +kernel
theorem dMd_expandLabel_13 : decode cMd_expandLabel 13 = .ok (.iconst 1, 1) := by decide +kernel
theorem dMd_expandLabel_14 : decode cMd_expandLabel 14 = .ok (.invokevirtual 136, 3) := by decide +kernel
theorem dMd_expandLabel_17 : decode cMd_expandLabel 17 = .ok (.ireturn, 1) := by decide +kernel
theorem dMd_expandLabel_18 : decode cMd_expandLabel 18 = .ok (.iload_n 2, 1) := by decide +kernel
theorem dMd_expandLabel_19 : decode cMd_expandLabel 19 = .ok (.iconst 1, 1) := by decide +kernel
theorem dMd_expandLabel_20 : decode cMd_expandLabel 20 = .ok (.if_icmp .lt 47, 3) := by decide +kernel
theorem dMd_expandLabel_23 : decode cMd_expandLabel 23 = .ok (.iload_n 2, 1) := by decide +kernel
theorem dMd_expandLabel_24 : decode cMd_expandLabel 24 = .ok (.sipush 255, 3) := by decide +kernel
theorem dMd_expandLabel_27 : decode cMd_expandLabel 27 = .ok (.iload_n 1, 1) := by decide +kernel
theorem dMd_expandLabel_28 : decode cMd_expandLabel 28 = .ok (.invokestatic 109, 3) := by decide +kernel
theorem dMd_expandLabel_31 : decode cMd_expandLabel 31 = .ok (.imul, 1) := by decide +kernel
theorem dMd_expandLabel_32 : decode cMd_expandLabel 32 = .ok (.if_icmp .gt 35, 3) := by decide +kernel
theorem dMd_expandLabel_35 : decode cMd_expandLabel 35 = .ok (.iload_n 3, 1) := by decide +kernel
theorem dMd_expandLabel_36 : decode cMd_expandLabel 36 = .ok (.iconst 1, 1) := by decide +kernel
theorem dMd_expandLabel_37 : decode cMd_expandLabel 37 = .ok (.if_icmp .lt 30, 3) := by decide +kernel
theorem dMd_expandLabel_40 : decode cMd_expandLabel 40 = .ok (.iload_n 3, 1) := by decide +kernel
theorem dMd_expandLabel_41 : decode cMd_expandLabel 41 = .ok (.sipush 249, 3) := by decide +kernel
theorem dMd_expandLabel_44 : decode cMd_expandLabel 44 = .ok (.if_icmp .gt 23, 3) := by decide +kernel
theorem dMd_expandLabel_47 : decode cMd_expandLabel 47 = .ok (.iload_n 3, 1) := by decide +kernel
theorem dMd_expandLabel_48 : decode cMd_expandLabel 48 = .ok (.aload_n 0, 1) := by decide +kernel
theorem dMd_expandLabel_49 : decode cMd_expandLabel 49 = .ok (.getfield 132, 3) := by decide +kernel
theorem dMd_expandLabel_52 : decode cMd_expandLabel 52 = .ok (.if_icmp .gt 15, 3) := by decide +kernel
theorem dMd_expandLabel_55 : decode cMd_expandLabel 55 = .ok (.aload_n 0, 1) := by decide +kernel
theorem dMd_expandLabel_56 : decode cMd_expandLabel 56 = .ok (.getfield 132, 3) := by decide +kernel
theorem dMd_expandLabel_59 : decode cMd_expandLabel 59 = .ok (.iload_n 3, 1) := by decide +kernel
theorem dMd_expandLabel_60 : decode cMd_expandLabel 60 = .ok (.isub, 1) := by decide +kernel
theorem dMd_expandLabel_61 : decode cMd_expandLabel 61 = .ok (.sipush 255, 3) := by decide +kernel
theorem dMd_expandLabel_64 : decode cMd_expandLabel 64 = .ok (.if_icmp .le 9, 3) := by decide +kernel
theorem dMd_expandLabel_67 : decode cMd_expandLabel 67 = .ok (.aload_n 0, 1) := by decide +kernel
theorem dMd_expandLabel_68 : decode cMd_expandLabel 68 = .ok (.iconst 2, 1) := by decide +kernel
theorem dMd_expandLabel_69 : decode cMd_expandLabel 69 = .ok (.invokevirtual 136, 3) := by decide +kernel
theorem dMd_expandLabel_72 : decode cMd_expandLabel 72 = .ok (.ireturn, 1) := by decide +kernel
theorem dMd_expandLabel_73 : decode cMd_expandLabel 73 = .ok (.aload_n 0, 1) := by decide +kernel
theorem dMd_expandLabel_74 : decode cMd_expandLabel 74 = .ok (.getfield 132, 3) := by decide +kernel
theorem dMd_expandLabel_77 : decode cMd_expandLabel 77 = .ok (.iload_n 3, 1) := by decide +kernel
theorem dMd_expandLabel_78 : decode cMd_expandLabel 78 = .ok (.isub, 1) := by decide +kernel
theorem dMd_expandLabel_79 : decode cMd_expandLabel 79 = .ok (.istore 4, 2) := by decide +kernel
theorem dMd_expandLabel_81 : decode cMd_expandLabel 81 = .ok (.aload_n 0, 1) := by decide +kernel
theorem dMd_expandLabel_82 : decode cMd_expandLabel 82 = .ok (.getfield 132, 3) := by decide +kernel
theorem dMd_expandLabel_85 : decode cMd_expandLabel 85 = .ok (.iconst 1, 1) := by decide +kernel
theorem dMd_expandLabel_86 : decode cMd_expandLabel 86 = .ok (.isub, 1) := by decide +kernel
theorem dMd_expandLabel_87 : decode cMd_expandLabel 87 = .ok (.istore 5, 2) := by decide +kernel
theorem dMd_expandLabel_89 : decode cMd_expandLabel 89 = .ok (.iload 5, 2) := by decide +kernel
theorem dMd_expandLabel_91 : decode cMd_expandLabel 91 = .ok (.ifCond .lt 37, 3) := by decide +kernel
theorem dMd_expandLabel_94 : decode cMd_expandLabel 94 = .ok (.aload_n 0, 1) := by decide +kernel
theorem dMd_expandLabel_95 : decode cMd_expandLabel 95 = .ok (.getfield 8, 3) := by decide +kernel
theorem dMd_expandLabel_98 : decode cMd_expandLabel 98 = .ok (.iload 5, 2) := by decide +kernel
theorem dMd_expandLabel_100 : decode cMd_expandLabel 100 = .ok (.iload 5, 2) := by decide +kernel
theorem dMd_expandLabel_102 : decode cMd_expandLabel 102 = .ok (.iload_n 3, 1) := by decide +kernel
theorem dMd_expandLabel_103 : decode cMd_expandLabel 103 = .ok (.if_icmp .ge 8, 3) := by decide +kernel
theorem dMd_expandLabel_106 : decode cMd_expandLabel 106 = .ok (.bipush 9, 2) := by decide +kernel
theorem dMd_expandLabel_108 : decode cMd_expandLabel 108 = .ok (.goto 5, 3) := by decide +kernel
theorem dMd_expandLabel_111 : decode cMd_expandLabel 111 = .ok (.bipush 10, 2) := by decide +kernel
theorem dMd_expandLabel_113 : decode cMd_expandLabel 113 = .ok (.iadd, 1) := by decide +kernel
theorem dMd_expandLabel_114 : decode cMd_expandLabel 114 = .ok (.aload_n 0, 1) := by decide +kernel
theorem dMd_expandLabel_115 : decode cMd_expandLabel 115 = .ok (.getfield 8, 3) := by decide +kernel
theorem dMd_expandLabel_118 : decode cMd_expandLabel 118 = .ok (.iload 5, 2) := by decide +kernel
theorem dMd_expandLabel_120 : decode cMd_expandLabel 120 = .ok (.baload, 1) := by decide +kernel
theorem dMd_expandLabel_121 : decode cMd_expandLabel 121 = .ok (.bastore, 1) := by decide +kernel
theorem dMd_expandLabel_122 : decode cMd_expandLabel 122 = .ok (.iinc 5 (-1), 3) := by decide +kernel
theorem dMd_expandLabel_125 : decode cMd_expandLabel 125 = .ok (.goto (-36), 3) := by decide +kernel
theorem dMd_expandLabel_128 : decode cMd_expandLabel 128 = .ok (.aload_n 0, 1) := by decide +kernel
theorem dMd_expandLabel_129 : decode cMd_expandLabel 129 = .ok (.getfield 8, 3) := by decide +kernel
theorem dMd_expandLabel_132 : decode cMd_expandLabel 132 = .ok (.iconst 0, 1) := by decide +kernel
theorem dMd_expandLabel_133 : decode cMd_expandLabel 133 = .ok (.iload_n 2, 1) := by decide +kernel
theorem dMd_expandLabel_134 : decode cMd_expandLabel 134 = .ok (.bipush 8, 2) := by decide +kernel
theorem dMd_expandLabel_136 : decode cMd_expandLabel 136 = .ok (.ishr, 1) := by decide +kernel
theorem dMd_expandLabel_137 : decode cMd_expandLabel 137 = .ok (.i2b, 1) := by decide +kernel
theorem dMd_expandLabel_138 : decode cMd_expandLabel 138 = .ok (.bastore, 1) := by decide +kernel
theorem dMd_expandLabel_139 : decode cMd_expandLabel 139 = .ok (.aload_n 0, 1) := by decide +kernel
theorem dMd_expandLabel_140 : decode cMd_expandLabel 140 = .ok (.getfield 8, 3) := by decide +kernel
theorem dMd_expandLabel_143 : decode cMd_expandLabel 143 = .ok (.iconst 1, 1) := by decide +kernel
theorem dMd_expandLabel_144 : decode cMd_expandLabel 144 = .ok (.iload_n 2, 1) := by decide +kernel
theorem dMd_expandLabel_145 : decode cMd_expandLabel 145 = .ok (.i2b, 1) := by decide +kernel
theorem dMd_expandLabel_146 : decode cMd_expandLabel 146 = .ok (.bastore, 1) := by decide +kernel
theorem dMd_expandLabel_147 : decode cMd_expandLabel 147 = .ok (.aload_n 0, 1) := by decide +kernel
theorem dMd_expandLabel_148 : decode cMd_expandLabel 148 = .ok (.getfield 8, 3) := by decide +kernel
theorem dMd_expandLabel_151 : decode cMd_expandLabel 151 = .ok (.iconst 2, 1) := by decide +kernel
theorem dMd_expandLabel_152 : decode cMd_expandLabel 152 = .ok (.iload_n 3, 1) := by decide +kernel
theorem dMd_expandLabel_153 : decode cMd_expandLabel 153 = .ok (.bipush 6, 2) := by decide +kernel
theorem dMd_expandLabel_155 : decode cMd_expandLabel 155 = .ok (.iadd, 1) := by decide +kernel
theorem dMd_expandLabel_156 : decode cMd_expandLabel 156 = .ok (.i2b, 1) := by decide +kernel
theorem dMd_expandLabel_157 : decode cMd_expandLabel 157 = .ok (.bastore, 1) := by decide +kernel
theorem dMd_expandLabel_158 : decode cMd_expandLabel 158 = .ok (.aload_n 0, 1) := by decide +kernel
theorem dMd_expandLabel_159 : decode cMd_expandLabel 159 = .ok (.getfield 8, 3) := by decide +kernel
theorem dMd_expandLabel_162 : decode cMd_expandLabel 162 = .ok (.iconst 3, 1) := by decide +kernel
theorem dMd_expandLabel_163 : decode cMd_expandLabel 163 = .ok (.bipush 116, 2) := by decide +kernel
theorem dMd_expandLabel_165 : decode cMd_expandLabel 165 = .ok (.bastore, 1) := by decide +kernel
theorem dMd_expandLabel_166 : decode cMd_expandLabel 166 = .ok (.aload_n 0, 1) := by decide +kernel
theorem dMd_expandLabel_167 : decode cMd_expandLabel 167 = .ok (.getfield 8, 3) := by decide +kernel
theorem dMd_expandLabel_170 : decode cMd_expandLabel 170 = .ok (.iconst 4, 1) := by decide +kernel
theorem dMd_expandLabel_171 : decode cMd_expandLabel 171 = .ok (.bipush 108, 2) := by decide +kernel
theorem dMd_expandLabel_173 : decode cMd_expandLabel 173 = .ok (.bastore, 1) := by decide +kernel
theorem dMd_expandLabel_174 : decode cMd_expandLabel 174 = .ok (.aload_n 0, 1) := by decide +kernel
theorem dMd_expandLabel_175 : decode cMd_expandLabel 175 = .ok (.getfield 8, 3) := by decide +kernel
theorem dMd_expandLabel_178 : decode cMd_expandLabel 178 = .ok (.iconst 5, 1) := by decide +kernel
theorem dMd_expandLabel_179 : decode cMd_expandLabel 179 = .ok (.bipush 115, 2) := by decide +kernel
theorem dMd_expandLabel_181 : decode cMd_expandLabel 181 = .ok (.bastore, 1) := by decide +kernel
theorem dMd_expandLabel_182 : decode cMd_expandLabel 182 = .ok (.aload_n 0, 1) := by decide +kernel
theorem dMd_expandLabel_183 : decode cMd_expandLabel 183 = .ok (.getfield 8, 3) := by decide +kernel
theorem dMd_expandLabel_186 : decode cMd_expandLabel 186 = .ok (.bipush 6, 2) := by decide +kernel
theorem dMd_expandLabel_188 : decode cMd_expandLabel 188 = .ok (.bipush 49, 2) := by decide +kernel
theorem dMd_expandLabel_190 : decode cMd_expandLabel 190 = .ok (.bastore, 1) := by decide +kernel
theorem dMd_expandLabel_191 : decode cMd_expandLabel 191 = .ok (.aload_n 0, 1) := by decide +kernel
theorem dMd_expandLabel_192 : decode cMd_expandLabel 192 = .ok (.getfield 8, 3) := by decide +kernel
theorem dMd_expandLabel_195 : decode cMd_expandLabel 195 = .ok (.bipush 7, 2) := by decide +kernel
theorem dMd_expandLabel_197 : decode cMd_expandLabel 197 = .ok (.bipush 51, 2) := by decide +kernel
theorem dMd_expandLabel_199 : decode cMd_expandLabel 199 = .ok (.bastore, 1) := by decide +kernel
theorem dMd_expandLabel_200 : decode cMd_expandLabel 200 = .ok (.aload_n 0, 1) := by decide +kernel
theorem dMd_expandLabel_201 : decode cMd_expandLabel 201 = .ok (.getfield 8, 3) := by decide +kernel
theorem dMd_expandLabel_204 : decode cMd_expandLabel 204 = .ok (.bipush 8, 2) := by decide +kernel
theorem dMd_expandLabel_206 : decode cMd_expandLabel 206 = .ok (.bipush 32, 2) := by decide +kernel
theorem dMd_expandLabel_208 : decode cMd_expandLabel 208 = .ok (.bastore, 1) := by decide +kernel
theorem dMd_expandLabel_209 : decode cMd_expandLabel 209 = .ok (.aload_n 0, 1) := by decide +kernel
theorem dMd_expandLabel_210 : decode cMd_expandLabel 210 = .ok (.getfield 8, 3) := by decide +kernel
theorem dMd_expandLabel_213 : decode cMd_expandLabel 213 = .ok (.bipush 9, 2) := by decide +kernel
theorem dMd_expandLabel_215 : decode cMd_expandLabel 215 = .ok (.iload_n 3, 1) := by decide +kernel
theorem dMd_expandLabel_216 : decode cMd_expandLabel 216 = .ok (.iadd, 1) := by decide +kernel
theorem dMd_expandLabel_217 : decode cMd_expandLabel 217 = .ok (.iload 4, 2) := by decide +kernel
theorem dMd_expandLabel_219 : decode cMd_expandLabel 219 = .ok (.i2b, 1) := by decide +kernel
theorem dMd_expandLabel_220 : decode cMd_expandLabel 220 = .ok (.bastore, 1) := by decide +kernel
theorem dMd_expandLabel_221 : decode cMd_expandLabel 221 = .ok (.aload_n 0, 1) := by decide +kernel
theorem dMd_expandLabel_222 : decode cMd_expandLabel 222 = .ok (.dup, 1) := by decide +kernel
theorem dMd_expandLabel_223 : decode cMd_expandLabel 223 = .ok (.getfield 132, 3) := by decide +kernel
theorem dMd_expandLabel_226 : decode cMd_expandLabel 226 = .ok (.bipush 10, 2) := by decide +kernel
theorem dMd_expandLabel_228 : decode cMd_expandLabel 228 = .ok (.iadd, 1) := by decide +kernel
theorem dMd_expandLabel_229 : decode cMd_expandLabel 229 = .ok (.putfield 132, 3) := by decide +kernel
theorem dMd_expandLabel_232 : decode cMd_expandLabel 232 = .ok (.aload_n 0, 1) := by decide +kernel
theorem dMd_expandLabel_233 : decode cMd_expandLabel 233 = .ok (.iload_n 1, 1) := by decide +kernel
theorem dMd_expandLabel_234 : decode cMd_expandLabel 234 = .ok (.iload_n 2, 1) := by decide +kernel
theorem dMd_expandLabel_235 : decode cMd_expandLabel 235 = .ok (.invokevirtual 155, 3) := by decide +kernel
theorem dMd_expandLabel_238 : decode cMd_expandLabel 238 = .ok (.ireturn, 1) := by decide +kernel
theorem dMd_expanded_0 : decode cMd_expanded 0 = .ok (.iload_n 1, 1) := by decide +kernel
theorem dMd_expanded_1 : decode cMd_expanded 1 = .ok (.invokestatic 109, 3) := by decide +kernel
theorem dMd_expanded_4 : decode cMd_expanded 4 = .ok (.istore_n 3, 1) := by decide +kernel
theorem dMd_expanded_5 : decode cMd_expanded 5 = .ok (.aload_n 0, 1) := by decide +kernel
theorem dMd_expanded_6 : decode cMd_expanded 6 = .ok (.iload_n 1, 1) := by decide +kernel
theorem dMd_expanded_7 : decode cMd_expanded 7 = .ok (.invokevirtual 147, 3) := by decide +kernel
theorem dMd_expanded_10 : decode cMd_expanded 10 = .ok (.iconst 0, 1) := by decide +kernel
theorem dMd_expanded_11 : decode cMd_expanded 11 = .ok (.istore 4, 2) := by decide +kernel
theorem dMd_expanded_13 : decode cMd_expanded 13 = .ok (.iload 4, 2) := by decide +kernel
theorem dMd_expanded_15 : decode cMd_expanded 15 = .ok (.iload_n 2, 1) := by decide +kernel
theorem dMd_expanded_16 : decode cMd_expanded 16 = .ok (.if_icmp .ge 180, 3) := by decide +kernel
theorem dMd_expanded_19 : decode cMd_expanded 19 = .ok (.iload_n 1, 1) := by decide +kernel
theorem dMd_expanded_20 : decode cMd_expanded 20 = .ok (.invokestatic 85, 3) := by decide +kernel
theorem dMd_expanded_23 : decode cMd_expanded 23 = .ok (.istore 5, 2) := by decide +kernel
theorem dMd_expanded_25 : decode cMd_expanded 25 = .ok (.iconst 0, 1) := by decide +kernel
theorem dMd_expanded_26 : decode cMd_expanded 26 = .ok (.istore 6, 2) := by decide +kernel
theorem dMd_expanded_28 : decode cMd_expanded 28 = .ok (.iload 4, 2) := by decide +kernel
theorem dMd_expanded_30 : decode cMd_expanded 30 = .ok (.ifCond .le 32, 3) := by decide +kernel
theorem dMd_expanded_33 : decode cMd_expanded 33 = .ok (.iload 6, 2) := by decide +kernel
theorem dMd_expanded_35 : decode cMd_expanded 35 = .ok (.iload_n 3, 1) := by decide +kernel
theorem dMd_expanded_36 : decode cMd_expanded 36 = .ok (.if_icmp .ge 26, 3) := by decide +kernel
theorem dMd_expanded_39 : decode cMd_expanded 39 = .ok (.aload_n 0, 1) := by decide +kernel
theorem dMd_expanded_40 : decode cMd_expanded 40 = .ok (.getfield 32, 3) := by decide +kernel
theorem dMd_expanded_43 : decode cMd_expanded 43 = .ok (.iload 5, 2) := by decide +kernel
theorem dMd_expanded_45 : decode cMd_expanded 45 = .ok (.iload 6, 2) := by decide +kernel
theorem dMd_expanded_47 : decode cMd_expanded 47 = .ok (.iadd, 1) := by decide +kernel
theorem dMd_expanded_48 : decode cMd_expanded 48 = .ok (.aload_n 0, 1) := by decide +kernel
theorem dMd_expanded_49 : decode cMd_expanded 49 = .ok (.getfield 35, 3) := by decide +kernel
theorem dMd_expanded_52 : decode cMd_expanded 52 = .ok (.iload 6, 2) := by decide +kernel
theorem dMd_expanded_54 : decode cMd_expanded 54 = .ok (.baload, 1) := by decide +kernel
theorem dMd_expanded_55 : decode cMd_expanded 55 = .ok (.bastore, 1) := by decide +kernel
theorem dMd_expanded_56 : decode cMd_expanded 56 = .ok (.iinc 6 1, 3) := by decide +kernel
theorem dMd_expanded_59 : decode cMd_expanded 59 = .ok (.goto (-31), 3) := by decide +kernel
theorem dMd_expanded_62 : decode cMd_expanded 62 = .ok (.iload 4, 2) := by decide +kernel
theorem dMd_expanded_64 : decode cMd_expanded 64 = .ok (.ifCond .le 9, 3) := by decide +kernel
theorem dMd_expanded_67 : decode cMd_expanded 67 = .ok (.iload 5, 2) := by decide +kernel
theorem dMd_expanded_69 : decode cMd_expanded 69 = .ok (.iload_n 3, 1) := by decide +kernel
theorem dMd_expanded_70 : decode cMd_expanded 70 = .ok (.iadd, 1) := by decide +kernel
theorem dMd_expanded_71 : decode cMd_expanded 71 = .ok (.istore 5, 2) := by decide +kernel
theorem dMd_expanded_73 : decode cMd_expanded 73 = .ok (.iconst 0, 1) := by decide +kernel
theorem dMd_expanded_74 : decode cMd_expanded 74 = .ok (.istore 6, 2) := by decide +kernel
theorem dMd_expanded_76 : decode cMd_expanded 76 = .ok (.iload 6, 2) := by decide +kernel
theorem dMd_expanded_78 : decode cMd_expanded 78 = .ok (.aload_n 0, 1) := by decide +kernel
theorem dMd_expanded_79 : decode cMd_expanded 79 = .ok (.getfield 132, 3) := by decide +kernel
theorem dMd_expanded_82 : decode cMd_expanded 82 = .ok (.if_icmp .ge 26, 3) := by decide +kernel
theorem dMd_expanded_85 : decode cMd_expanded 85 = .ok (.aload_n 0, 1) := by decide +kernel
theorem dMd_expanded_86 : decode cMd_expanded 86 = .ok (.getfield 32, 3) := by decide +kernel
theorem dMd_expanded_89 : decode cMd_expanded 89 = .ok (.iload 5, 2) := by decide +kernel
theorem dMd_expanded_91 : decode cMd_expanded 91 = .ok (.iload 6, 2) := by decide +kernel
theorem dMd_expanded_93 : decode cMd_expanded 93 = .ok (.iadd, 1) := by decide +kernel
theorem dMd_expanded_94 : decode cMd_expanded 94 = .ok (.aload_n 0, 1) := by decide +kernel
theorem dMd_expanded_95 : decode cMd_expanded 95 = .ok (.getfield 8, 3) := by decide +kernel
theorem dMd_expanded_98 : decode cMd_expanded 98 = .ok (.iload 6, 2) := by decide +kernel
theorem dMd_expanded_100 : decode cMd_expanded 100 = .ok (.baload, 1) := by decide +kernel
theorem dMd_expanded_101 : decode cMd_expanded 101 = .ok (.bastore, 1) := by decide +kernel
theorem dMd_expanded_102 : decode cMd_expanded 102 = .ok (.iinc 6 1, 3) := by decide +kernel
theorem dMd_expanded_105 : decode cMd_expanded 105 = .ok (.goto (-29), 3) := by decide +kernel
theorem dMd_expanded_108 : decode cMd_expanded 108 = .ok (.aload_n 0, 1) := by decide +kernel
theorem dMd_expanded_109 : decode cMd_expanded 109 = .ok (.getfield 32, 3) := by decide +kernel
theorem dMd_expanded_112 : decode cMd_expanded 112 = .ok (.iload 5, 2) := by decide +kernel
theorem dMd_expanded_114 : decode cMd_expanded 114 = .ok (.aload_n 0, 1) := by decide +kernel
theorem dMd_expanded_115 : decode cMd_expanded 115 = .ok (.getfield 132, 3) := by decide +kernel
theorem dMd_expanded_118 : decode cMd_expanded 118 = .ok (.iadd, 1) := by decide +kernel
theorem dMd_expanded_119 : decode cMd_expanded 119 = .ok (.iload 4, 2) := by decide +kernel
theorem dMd_expanded_121 : decode cMd_expanded 121 = .ok (.iload_n 3, 1) := by decide +kernel
theorem dMd_expanded_122 : decode cMd_expanded 122 = .ok (.idiv, 1) := by decide +kernel
theorem dMd_expanded_123 : decode cMd_expanded 123 = .ok (.iconst 1, 1) := by decide +kernel
theorem dMd_expanded_124 : decode cMd_expanded 124 = .ok (.iadd, 1) := by decide +kernel
theorem dMd_expanded_125 : decode cMd_expanded 125 = .ok (.i2b, 1) := by decide +kernel
theorem dMd_expanded_126 : decode cMd_expanded 126 = .ok (.bastore, 1) := by decide +kernel
theorem dMd_expanded_127 : decode cMd_expanded 127 = .ok (.aload_n 0, 1) := by decide +kernel
theorem dMd_expanded_128 : decode cMd_expanded 128 = .ok (.iload_n 1, 1) := by decide +kernel
theorem dMd_expanded_129 : decode cMd_expanded 129 = .ok (.iload 5, 2) := by decide +kernel
theorem dMd_expanded_131 : decode cMd_expanded 131 = .ok (.aload_n 0, 1) := by decide +kernel
theorem dMd_expanded_132 : decode cMd_expanded 132 = .ok (.getfield 132, 3) := by decide +kernel
theorem dMd_expanded_135 : decode cMd_expanded 135 = .ok (.iadd, 1) := by decide +kernel
theorem dMd_expanded_136 : decode cMd_expanded 136 = .ok (.iconst 1, 1) := by decide +kernel
theorem dMd_expanded_137 : decode cMd_expanded 137 = .ok (.iadd, 1) := by decide +kernel
theorem dMd_expanded_138 : decode cMd_expanded 138 = .ok (.iload_n 1, 1) := by decide +kernel
theorem dMd_expanded_139 : decode cMd_expanded 139 = .ok (.invokestatic 85, 3) := by decide +kernel
theorem dMd_expanded_142 : decode cMd_expanded 142 = .ok (.isub, 1) := by decide +kernel
theorem dMd_expanded_143 : decode cMd_expanded 143 = .ok (.invokevirtual 151, 3) := by decide +kernel
theorem dMd_expanded_146 : decode cMd_expanded 146 = .ok (.iconst 0, 1) := by decide +kernel
theorem dMd_expanded_147 : decode cMd_expanded 147 = .ok (.istore 6, 2) := by decide +kernel
theorem dMd_expanded_149 : decode cMd_expanded 149 = .ok (.iload 6, 2) := by decide +kernel
theorem dMd_expanded_151 : decode cMd_expanded 151 = .ok (.iload_n 3, 1) := by decide +kernel
theorem dMd_expanded_152 : decode cMd_expanded 152 = .ok (.if_icmp .ge 35, 3) := by decide +kernel
theorem dMd_expanded_155 : decode cMd_expanded 155 = .ok (.iload 4, 2) := by decide +kernel
theorem dMd_expanded_157 : decode cMd_expanded 157 = .ok (.iload 6, 2) := by decide +kernel
theorem dMd_expanded_159 : decode cMd_expanded 159 = .ok (.iadd, 1) := by decide +kernel
theorem dMd_expanded_160 : decode cMd_expanded 160 = .ok (.iload_n 2, 1) := by decide +kernel
theorem dMd_expanded_161 : decode cMd_expanded 161 = .ok (.if_icmp .ge 26, 3) := by decide +kernel
theorem dMd_expanded_164 : decode cMd_expanded 164 = .ok (.aload_n 0, 1) := by decide +kernel
theorem dMd_expanded_165 : decode cMd_expanded 165 = .ok (.getfield 17, 3) := by decide +kernel
theorem dMd_expanded_168 : decode cMd_expanded 168 = .ok (.iload 4, 2) := by decide +kernel
theorem dMd_expanded_170 : decode cMd_expanded 170 = .ok (.iload 6, 2) := by decide +kernel
theorem dMd_expanded_172 : decode cMd_expanded 172 = .ok (.iadd, 1) := by decide +kernel
theorem dMd_expanded_173 : decode cMd_expanded 173 = .ok (.aload_n 0, 1) := by decide +kernel
theorem dMd_expanded_174 : decode cMd_expanded 174 = .ok (.getfield 35, 3) := by decide +kernel
theorem dMd_expanded_177 : decode cMd_expanded 177 = .ok (.iload 6, 2) := by decide +kernel
theorem dMd_expanded_179 : decode cMd_expanded 179 = .ok (.baload, 1) := by decide +kernel
theorem dMd_expanded_180 : decode cMd_expanded 180 = .ok (.bastore, 1) := by decide +kernel
theorem dMd_expanded_181 : decode cMd_expanded 181 = .ok (.iinc 6 1, 3) := by decide +kernel
theorem dMd_expanded_184 : decode cMd_expanded 184 = .ok (.goto (-35), 3) := by decide +kernel
theorem dMd_expanded_187 : decode cMd_expanded 187 = .ok (.iload 4, 2) := by decide +kernel
theorem dMd_expanded_189 : decode cMd_expanded 189 = .ok (.iload_n 3, 1) := by decide +kernel
theorem dMd_expanded_190 : decode cMd_expanded 190 = .ok (.iadd, 1) := by decide +kernel
theorem dMd_expanded_191 : decode cMd_expanded 191 = .ok (.istore 4, 2) := by decide +kernel
theorem dMd_expanded_193 : decode cMd_expanded 193 = .ok (.goto (-180), 3) := by decide +kernel
theorem dMd_expanded_196 : decode cMd_expanded 196 = .ok (.aload_n 0, 1) := by decide +kernel
theorem dMd_expanded_197 : decode cMd_expanded 197 = .ok (.iconst 0, 1) := by decide +kernel
theorem dMd_expanded_198 : decode cMd_expanded 198 = .ok (.putfield 132, 3) := by decide +kernel
theorem dMd_expanded_201 : decode cMd_expanded 201 = .ok (.aload_n 0, 1) := by decide +kernel
theorem dMd_expanded_202 : decode cMd_expanded 202 = .ok (.iload_n 2, 1) := by decide +kernel
theorem dMd_expanded_203 : decode cMd_expanded 203 = .ok (.putfield 144, 3) := by decide +kernel
theorem dMd_expanded_206 : decode cMd_expanded 206 = .ok (.iload_n 2, 1) := by decide +kernel
theorem dMd_expanded_207 : decode cMd_expanded 207 = .ok (.ireturn, 1) := by decide +kernel
theorem dMd_fail_0 : decode cMd_fail 0 = .ok (.aload_n 0, 1) := by decide +kernel
theorem dMd_fail_1 : decode cMd_fail 1 = .ok (.iload_n 1, 1) := by decide +kernel
theorem dMd_fail_2 : decode cMd_fail 2 = .ok (.putfield 71, 3) := by decide +kernel
theorem dMd_fail_5 : decode cMd_fail 5 = .ok (.iconst 0, 1) := by decide +kernel
theorem dMd_fail_6 : decode cMd_fail 6 = .ok (.ireturn, 1) := by decide +kernel
theorem dMd_feed_0 : decode cMd_feed 0 = .ok (.aload_n 0, 1) := by decide +kernel
theorem dMd_feed_1 : decode cMd_feed 1 = .ok (.iconst 0, 1) := by decide +kernel
theorem dMd_feed_2 : decode cMd_feed 2 = .ok (.putfield 71, 3) := by decide +kernel
theorem dMd_feed_5 : decode cMd_feed 5 = .ok (.aload_n 0, 1) := by decide +kernel
theorem dMd_feed_6 : decode cMd_feed 6 = .ok (.getfield 132, 3) := by decide +kernel
theorem dMd_feed_9 : decode cMd_feed 9 = .ok (.ldc 135, 2) := by decide +kernel
theorem dMd_feed_11 : decode cMd_feed 11 = .ok (.if_icmp .le 9, 3) := by decide +kernel
theorem dMd_feed_14 : decode cMd_feed 14 = .ok (.aload_n 0, 1) := by decide +kernel
theorem dMd_feed_15 : decode cMd_feed 15 = .ok (.iconst 1, 1) := by decide +kernel
theorem dMd_feed_16 : decode cMd_feed 16 = .ok (.invokevirtual 136, 3) := by decide +kernel
theorem dMd_feed_19 : decode cMd_feed 19 = .ok (.ireturn, 1) := by decide +kernel
theorem dMd_feed_20 : decode cMd_feed 20 = .ok (.iconst 0, 1) := by decide +kernel
theorem dMd_feed_21 : decode cMd_feed 21 = .ok (.istore 6, 2) := by decide +kernel
theorem dMd_feed_23 : decode cMd_feed 23 = .ok (.iload 6, 2) := by decide +kernel
theorem dMd_feed_25 : decode cMd_feed 25 = .ok (.bipush 20, 2) := by decide +kernel
theorem dMd_feed_27 : decode cMd_feed 27 = .ok (.if_icmp .ge 82, 3) := by decide +kernel
theorem dMd_feed_30 : decode cMd_feed 30 = .ok (.iload 6, 2) := by decide +kernel
theorem dMd_feed_32 : decode cMd_feed 32 = .ok (.iconst 4, 1) := by decide +kernel
theorem dMd_feed_33 : decode cMd_feed 33 = .ok (.if_icmp .ge 7, 3) := by decide +kernel
theorem dMd_feed_36 : decode cMd_feed 36 = .ok (.iload_n 1, 1) := by decide +kernel
theorem dMd_feed_37 : decode cMd_feed 37 = .ok (.goto 39, 3) := by decide +kernel
theorem dMd_feed_40 : decode cMd_feed 40 = .ok (.iload 6, 2) := by decide +kernel
theorem dMd_feed_42 : decode cMd_feed 42 = .ok (.bipush 8, 2) := by decide +kernel
theorem dMd_feed_44 : decode cMd_feed 44 = .ok (.if_icmp .ge 7, 3) := by decide +kernel
theorem dMd_feed_47 : decode cMd_feed 47 = .ok (.iload_n 2, 1) := by decide +kernel
theorem dMd_feed_48 : decode cMd_feed 48 = .ok (.goto 28, 3) := by decide +kernel
theorem dMd_feed_51 : decode cMd_feed 51 = .ok (.iload 6, 2) := by decide +kernel
theorem dMd_feed_53 : decode cMd_feed 53 = .ok (.bipush 12, 2) := by decide +kernel
theorem dMd_feed_55 : decode cMd_feed 55 = .ok (.if_icmp .ge 7, 3) := by decide +kernel
theorem dMd_feed_58 : decode cMd_feed 58 = .ok (.iload_n 3, 1) := by decide +kernel
theorem dMd_feed_59 : decode cMd_feed 59 = .ok (.goto 17, 3) := by decide +kernel
theorem dMd_feed_62 : decode cMd_feed 62 = .ok (.iload 6, 2) := by decide +kernel
theorem dMd_feed_64 : decode cMd_feed 64 = .ok (.bipush 16, 2) := by decide +kernel
theorem dMd_feed_66 : decode cMd_feed 66 = .ok (.if_icmp .ge 8, 3) := by decide +kernel
theorem dMd_feed_69 : decode cMd_feed 69 = .ok (.iload 4, 2) := by decide +kernel
theorem dMd_feed_71 : decode cMd_feed 71 = .ok (.goto 5, 3) := by decide +kernel
theorem dMd_feed_74 : decode cMd_feed 74 = .ok (.iload 5, 2) := by decide +kernel
theorem dMd_feed_76 : decode cMd_feed 76 = .ok (.istore 7, 2) := by decide +kernel
theorem dMd_feed_78 : decode cMd_feed 78 = .ok (.aload_n 0, 1) := by decide +kernel
theorem dMd_feed_79 : decode cMd_feed 79 = .ok (.getfield 8, 3) := by decide +kernel
theorem dMd_feed_82 : decode cMd_feed 82 = .ok (.aload_n 0, 1) := by decide +kernel
theorem dMd_feed_83 : decode cMd_feed 83 = .ok (.getfield 132, 3) := by decide +kernel
theorem dMd_feed_86 : decode cMd_feed 86 = .ok (.iload 6, 2) := by decide +kernel
theorem dMd_feed_88 : decode cMd_feed 88 = .ok (.iadd, 1) := by decide +kernel
theorem dMd_feed_89 : decode cMd_feed 89 = .ok (.iload 7, 2) := by decide +kernel
theorem dMd_feed_91 : decode cMd_feed 91 = .ok (.bipush 8, 2) := by decide +kernel
theorem dMd_feed_93 : decode cMd_feed 93 = .ok (.iconst 3, 1) := by decide +kernel
theorem dMd_feed_94 : decode cMd_feed 94 = .ok (.iload 6, 2) := by decide +kernel
theorem dMd_feed_96 : decode cMd_feed 96 = .ok (.iconst 4, 1) := by decide +kernel
theorem dMd_feed_97 : decode cMd_feed 97 = .ok (.irem, 1) := by decide +kernel
theorem dMd_feed_98 : decode cMd_feed 98 = .ok (.isub, 1) := by decide +kernel
theorem dMd_feed_99 : decode cMd_feed 99 = .ok (.imul, 1) := by decide +kernel
theorem dMd_feed_100 : decode cMd_feed 100 = .ok (.ishr, 1) := by decide +kernel
theorem dMd_feed_101 : decode cMd_feed 101 = .ok (.i2b, 1) := by decide +kernel
theorem dMd_feed_102 : decode cMd_feed 102 = .ok (.bastore, 1) := by decide +kernel
theorem dMd_feed_103 : decode cMd_feed 103 = .ok (.iinc 6 1, 3) := by decide +kernel
theorem dMd_feed_106 : decode cMd_feed 106 = .ok (.goto (-83), 3) := by decide +kernel
theorem dMd_feed_109 : decode cMd_feed 109 = .ok (.aload_n 0, 1) := by decide +kernel
theorem dMd_feed_110 : decode cMd_feed 110 = .ok (.dup, 1) := by decide +kernel
theorem dMd_feed_111 : decode cMd_feed 111 = .ok (.getfield 132, 3) := by decide +kernel
theorem dMd_feed_114 : decode cMd_feed 114 = .ok (.bipush 20, 2) := by decide +kernel
theorem dMd_feed_116 : decode cMd_feed 116 = .ok (.iadd, 1) := by decide +kernel
theorem dMd_feed_117 : decode cMd_feed 117 = .ok (.putfield 132, 3) := by decide +kernel
theorem dMd_feed_120 : decode cMd_feed 120 = .ok (.aload_n 0, 1) := by decide +kernel
theorem dMd_feed_121 : decode cMd_feed 121 = .ok (.getfield 132, 3) := by decide +kernel
theorem dMd_feed_124 : decode cMd_feed 124 = .ok (.ireturn, 1) := by decide +kernel
theorem dMd_fit_0 : decode cMd_fit 0 = .ok (.aload_n 0, 1) := by decide +kernel
theorem dMd_fit_1 : decode cMd_fit 1 = .ok (.getfield 88, 3) := by decide +kernel
theorem dMd_fit_4 : decode cMd_fit 4 = .ok (.ifCond .eq 7, 3) := by decide +kernel
theorem dMd_fit_7 : decode cMd_fit 7 = .ok (.lload_n 1, 1) := by decide +kernel
theorem dMd_fit_8 : decode cMd_fit 8 = .ok (.goto 8, 3) := by decide +kernel
theorem dMd_fit_11 : decode cMd_fit 11 = .ok (.lload_n 1, 1) := by decide +kernel
theorem dMd_fit_12 : decode cMd_fit 12 = .ok (.ldc2_w 83, 3) := by decide +kernel
theorem dMd_fit_15 : decode cMd_fit 15 = .ok (.land, 1) := by decide +kernel
theorem dMd_fit_16 : decode cMd_fit 16 = .ok (.lreturn, 1) := by decide +kernel
theorem dMd_fits_0 : decode cMd_fits 0 = .ok (.iconst 0, 1) := by decide +kernel
theorem dMd_fits_1 : decode cMd_fits 1 = .ok (.istore 7, 2) := by decide +kernel
theorem dMd_fits_3 : decode cMd_fits 3 = .ok (.iload 7, 2) := by decide +kernel
theorem dMd_fits_5 : decode cMd_fits 5 = .ok (.bipush 8, 2) := by decide +kernel
theorem dMd_fits_7 : decode cMd_fits 7 = .ok (.if_icmp .ge 26, 3) := by decide +kernel
theorem dMd_fits_10 : decode cMd_fits 10 = .ok (.aload_n 0, 1) := by decide +kernel
theorem dMd_fits_11 : decode cMd_fits 11 = .ok (.getfield 57, 3) := by decide +kernel
theorem dMd_fits_14 : decode cMd_fits 14 = .ok (.iload 7, 2) := by decide +kernel
theorem dMd_fits_16 : decode cMd_fits 16 = .ok (.iload 7, 2) := by decide +kernel
theorem dMd_fits_18 : decode cMd_fits 18 = .ok (.ifCond .ne 7, 3) := by decide +kernel
theorem dMd_fits_21 : decode cMd_fits 21 = .ok (.lconst 1, 1) := by decide +kernel
theorem dMd_fits_22 : decode cMd_fits 22 = .ok (.goto 4, 3) := by decide +kernel
theorem dMd_fits_25 : decode cMd_fits 25 = .ok (.lconst 0, 1) := by decide +kernel
theorem dMd_fits_26 : decode cMd_fits 26 = .ok (.lastore, 1) := by decide +kernel
theorem dMd_fits_27 : decode cMd_fits 27 = .ok (.iinc 7 1, 3) := by decide +kernel
theorem dMd_fits_30 : decode cMd_fits 30 = .ok (.goto (-27), 3) := by decide +kernel
theorem dMd_fits_33 : decode cMd_fits 33 = .ok (.iconst 0, 1) := by decide +kernel
theorem dMd_fits_34 : decode cMd_fits 34 = .ok (.istore 7, 2) := by decide +kernel
theorem dMd_fits_36 : decode cMd_fits 36 = .ok (.iload 7, 2) := by decide +kernel
theorem dMd_fits_38 : decode cMd_fits 38 = .ok (.iload 6, 2) := by decide +kernel
theorem dMd_fits_40 : decode cMd_fits 40 = .ok (.if_icmp .ge 15, 3) := by decide +kernel
theorem dMd_fits_43 : decode cMd_fits 43 = .ok (.aload_n 0, 1) := by decide +kernel
theorem dMd_fits_44 : decode cMd_fits 44 = .ok (.lload_n 1, 1) := by decide +kernel
theorem dMd_fits_45 : decode cMd_fits 45 = .ok (.lload_n 3, 1) := by decide +kernel
theorem dMd_fits_46 : decode cMd_fits 46 = .ok (.invokevirtual 79, 3) := by decide +kernel
theorem dMd_fits_49 : decode cMd_fits 49 = .ok (.iinc 7 1, 3) := by decide +kernel
theorem dMd_fits_52 : decode cMd_fits 52 = .ok (.goto (-16), 3) := by decide +kernel
theorem dMd_fits_55 : decode cMd_fits 55 = .ok (.lconst 0, 1) := by decide +kernel
theorem dMd_fits_56 : decode cMd_fits 56 = .ok (.lstore 7, 2) := by decide +kernel
theorem dMd_fits_58 : decode cMd_fits 58 = .ok (.bipush 7, 2) := by decide +kernel
theorem dMd_fits_60 : decode cMd_fits 60 = .ok (.istore 9, 2) := by decide +kernel
theorem dMd_fits_62 : decode cMd_fits 62 = .ok (.iload 9, 2) := by decide +kernel
theorem dMd_fits_64 : decode cMd_fits 64 = .ok (.iconst 2, 1) := by decide +kernel
theorem dMd_fits_65 : decode cMd_fits 65 = .ok (.iload 6, 2) := by decide +kernel
theorem dMd_fits_67 : decode cMd_fits 67 = .ok (.imul, 1) := by decide +kernel
theorem dMd_fits_68 : decode cMd_fits 68 = .ok (.if_icmp .lt 24, 3) := by decide +kernel
theorem dMd_fits_71 : decode cMd_fits 71 = .ok (.lload 7, 2) := by decide +kernel
theorem dMd_fits_73 : decode cMd_fits 73 = .ok (.bipush 32, 2) := by decide +kernel
theorem dMd_fits_75 : decode cMd_fits 75 = .ok (.lshl, 1) := by decide +kernel
theorem dMd_fits_76 : decode cMd_fits 76 = .ok (.aload_n 0, 1) := by decide +kernel
theorem dMd_fits_77 : decode cMd_fits 77 = .ok (.getfield 57, 3) := by decide +kernel
theorem dMd_fits_80 : decode cMd_fits 80 = .ok (.iload 9, 2) := by decide +kernel
theorem dMd_fits_82 : decode cMd_fits 82 = .ok (.laload, 1) := by decide +kernel
theorem dMd_fits_83 : decode cMd_fits 83 = .ok (.lor, 1) := by decide +kernel
theorem dMd_fits_84 : decode cMd_fits 84 = .ok (.lstore 7, 2) := by decide +kernel
theorem dMd_fits_86 : decode cMd_fits 86 = .ok (.iinc 9 (-1), 3) := by decide +kernel
theorem dMd_fits_89 : decode cMd_fits 89 = .ok (.goto (-27), 3) := by decide +kernel
theorem dMd_fits_92 : decode cMd_fits 92 = .ok (.lload 7, 2) := by decide +kernel
theorem dMd_fits_94 : decode cMd_fits 94 = .ok (.iload 5, 2) := by decide +kernel
theorem dMd_fits_96 : decode cMd_fits 96 = .ok (.i2l, 1) := by decide +kernel
theorem dMd_fits_97 : decode cMd_fits 97 = .ok (.lcmp, 1) := by decide +kernel
theorem dMd_fits_98 : decode cMd_fits 98 = .ok (.ifCond .eq 18, 3) := by decide +kernel
theorem dMd_fits_101 : decode cMd_fits 101 = .ok (.lload 7, 2) := by decide +kernel
theorem dMd_fits_103 : decode cMd_fits 103 = .ok (.iload 5, 2) := by decide +kernel
theorem dMd_fits_105 : decode cMd_fits 105 = .ok (.i2l, 1) := by decide +kernel
theorem dMd_fits_106 : decode cMd_fits 106 = .ok (.lcmp, 1) := by decide +kernel
theorem dMd_fits_107 : decode cMd_fits 107 = .ok (.ifCond .ge 7, 3) := by decide +kernel
theorem dMd_fits_110 : decode cMd_fits 110 = .ok (.iconst 1, 1) := by decide +kernel
theorem dMd_fits_111 : decode cMd_fits 111 = .ok (.goto 4, 3) := by decide +kernel
theorem dMd_fits_114 : decode cMd_fits 114 = .ok (.iconst 0, 1) := by decide +kernel
theorem dMd_fits_115 : decode cMd_fits 115 = .ok (.ireturn, 1) := by decide +kernel
theorem dMd_fits_116 : decode cMd_fits 116 = .ok (.iconst 0, 1) := by decide +kernel
theorem dMd_fits_117 : decode cMd_fits 117 = .ok (.istore 9, 2) := by decide +kernel
theorem dMd_fits_119 : decode cMd_fits 119 = .ok (.iload 9, 2) := by decide +kernel
theorem dMd_fits_121 : decode cMd_fits 121 = .ok (.iconst 2, 1) := by decide +kernel
theorem dMd_fits_122 : decode cMd_fits 122 = .ok (.iload 6, 2) := by decide +kernel
theorem dMd_fits_124 : decode cMd_fits 124 = .ok (.imul, 1) := by decide +kernel
theorem dMd_fits_125 : decode cMd_fits 125 = .ok (.if_icmp .ge 23, 3) := by decide +kernel
theorem dMd_fits_128 : decode cMd_fits 128 = .ok (.aload_n 0, 1) := by decide +kernel
theorem dMd_fits_129 : decode cMd_fits 129 = .ok (.getfield 57, 3) := by decide +kernel
theorem dMd_fits_132 : decode cMd_fits 132 = .ok (.iload 9, 2) := by decide +kernel
theorem dMd_fits_134 : decode cMd_fits 134 = .ok (.laload, 1) := by decide +kernel
theorem dMd_fits_135 : decode cMd_fits 135 = .ok (.lconst 0, 1) := by decide +kernel
theorem dMd_fits_136 : decode cMd_fits 136 = .ok (.lcmp, 1) := by decide +kernel
theorem dMd_fits_137 : decode cMd_fits 137 = .ok (.ifCond .eq 5, 3) := by decide +kernel
theorem dMd_fits_140 : decode cMd_fits 140 = .ok (.iconst 0, 1) := by decide +kernel
theorem dMd_fits_141 : decode cMd_fits 141 = .ok (.ireturn, 1) := by decide +kernel
theorem dMd_fits_142 : decode cMd_fits 142 = .ok (.iinc 9 1, 3) := by decide +kernel
theorem dMd_fits_145 : decode cMd_fits 145 = .ok (.goto (-26), 3) := by decide +kernel
theorem dMd_fits_148 : decode cMd_fits 148 = .ok (.iconst 1, 1) := by decide +kernel
theorem dMd_fits_149 : decode cMd_fits 149 = .ok (.ireturn, 1) := by decide +kernel
theorem dMd_hash_0 : decode cMd_hash 0 = .ok (.aload_n 0, 1) := by decide +kernel
theorem dMd_hash_1 : decode cMd_hash 1 = .ok (.iload_n 1, 1) := by decide +kernel
theorem dMd_hash_2 : decode cMd_hash 2 = .ok (.ifCond .le 7, 3) := by decide +kernel
theorem dMd_hash_5 : decode cMd_hash 5 = .ok (.iconst 1, 1) := by decide +kernel
theorem dMd_hash_6 : decode cMd_hash 6 = .ok (.goto 4, 3) := by decide +kernel
theorem dMd_hash_9 : decode cMd_hash 9 = .ok (.iconst 0, 1) := by decide +kernel
theorem dMd_hash_10 : decode cMd_hash 10 = .ok (.putfield 88, 3) := by decide +kernel
theorem dMd_hash_13 : decode cMd_hash 13 = .ok (.aload_n 0, 1) := by decide +kernel
theorem dMd_hash_14 : decode cMd_hash 14 = .ok (.getfield 88, 3) := by decide +kernel
theorem dMd_hash_17 : decode cMd_hash 17 = .ok (.ifCond .eq 8, 3) := by decide +kernel
theorem dMd_hash_20 : decode cMd_hash 20 = .ok (.bipush 8, 2) := by decide +kernel
theorem dMd_hash_22 : decode cMd_hash 22 = .ok (.goto 4, 3) := by decide +kernel
theorem dMd_hash_25 : decode cMd_hash 25 = .ok (.iconst 4, 1) := by decide +kernel
theorem dMd_hash_26 : decode cMd_hash 26 = .ok (.istore 5, 2) := by decide +kernel
theorem dMd_hash_28 : decode cMd_hash 28 = .ok (.iload_n 1, 1) := by decide +kernel
theorem dMd_hash_29 : decode cMd_hash 29 = .ok (.iload 4, 2) := by decide +kernel
theorem dMd_hash_31 : decode cMd_hash 31 = .ok (.invokestatic 98, 3) := by decide +kernel
theorem dMd_hash_34 : decode cMd_hash 34 = .ok (.iload_n 1, 1) := by decide +kernel
theorem dMd_hash_35 : decode cMd_hash 35 = .ok (.invokestatic 85, 3) := by decide +kernel
theorem dMd_hash_38 : decode cMd_hash 38 = .ok (.imul, 1) := by decide +kernel
theorem dMd_hash_39 : decode cMd_hash 39 = .ok (.istore 6, 2) := by decide +kernel
theorem dMd_hash_41 : decode cMd_hash 41 = .ok (.iconst 0, 1) := by decide +kernel
theorem dMd_hash_42 : decode cMd_hash 42 = .ok (.istore 7, 2) := by decide +kernel
theorem dMd_hash_44 : decode cMd_hash 44 = .ok (.iload 7, 2) := by decide +kernel
theorem dMd_hash_46 : decode cMd_hash 46 = .ok (.bipush 8, 2) := by decide +kernel
theorem dMd_hash_48 : decode cMd_hash 48 = .ok (.if_icmp .ge 56, 3) := by decide +kernel
theorem dMd_hash_51 : decode cMd_hash 51 = .ok (.aload_n 0, 1) := by decide +kernel
theorem dMd_hash_52 : decode cMd_hash 52 = .ok (.getfield 54, 3) := by decide +kernel
theorem dMd_hash_55 : decode cMd_hash 55 = .ok (.iload 7, 2) := by decide +kernel
theorem dMd_hash_57 : decode cMd_hash 57 = .ok (.aload_n 0, 1) := by decide +kernel
theorem dMd_hash_58 : decode cMd_hash 58 = .ok (.getfield 88, 3) := by decide +kernel
theorem dMd_hash_61 : decode cMd_hash 61 = .ok (.ifCond .eq 29, 3) := by decide +kernel
theorem dMd_hash_64 : decode cMd_hash 64 = .ok (.aload_n 0, 1) := by decide +kernel
theorem dMd_hash_65 : decode cMd_hash 65 = .ok (.getfield 48, 3) := by decide +kernel
theorem dMd_hash_68 : decode cMd_hash 68 = .ok (.iload_n 1, 1) := by decide +kernel
theorem dMd_hash_69 : decode cMd_hash 69 = .ok (.iconst 1, 1) := by decide +kernel
theorem dMd_hash_70 : decode cMd_hash 70 = .ok (.if_icmp .ne 11, 3) := by decide +kernel
theorem dMd_hash_73 : decode cMd_hash 73 = .ok (.bipush 8, 2) := by decide +kernel
theorem dMd_hash_75 : decode cMd_hash 75 = .ok (.iload 7, 2) := by decide +kernel
theorem dMd_hash_77 : decode cMd_hash 77 = .ok (.iadd, 1) := by decide +kernel
theorem dMd_hash_78 : decode cMd_hash 78 = .ok (.goto 8, 3) := by decide +kernel
theorem dMd_hash_81 : decode cMd_hash 81 = .ok (.bipush 16, 2) := by decide +kernel
theorem dMd_hash_83 : decode cMd_hash 83 = .ok (.iload 7, 2) := by decide +kernel
theorem dMd_hash_85 : decode cMd_hash 85 = .ok (.iadd, 1) := by decide +kernel
theorem dMd_hash_86 : decode cMd_hash 86 = .ok (.laload, 1) := by decide +kernel
theorem dMd_hash_87 : decode cMd_hash 87 = .ok (.goto 10, 3) := by decide +kernel
theorem dMd_hash_90 : decode cMd_hash 90 = .ok (.aload_n 0, 1) := by decide +kernel
theorem dMd_hash_91 : decode cMd_hash 91 = .ok (.getfield 48, 3) := by decide +kernel
theorem dMd_hash_94 : decode cMd_hash 94 = .ok (.iload 7, 2) := by decide +kernel
theorem dMd_hash_96 : decode cMd_hash 96 = .ok (.laload, 1) := by decide +kernel
theorem dMd_hash_97 : decode cMd_hash 97 = .ok (.lastore, 1) := by decide +kernel
theorem dMd_hash_98 : decode cMd_hash 98 = .ok (.iinc 7 1, 3) := by decide +kernel
theorem dMd_hash_101 : decode cMd_hash 101 = .ok (.goto (-57), 3) := by decide +kernel
theorem dMd_hash_104 : decode cMd_hash 104 = .ok (.iconst 0, 1) := by decide +kernel
theorem dMd_hash_105 : decode cMd_hash 105 = .ok (.istore 7, 2) := by decide +kernel
theorem dMd_hash_107 : decode cMd_hash 107 = .ok (.iload 7, 2) := by decide +kernel
theorem dMd_hash_109 : decode cMd_hash 109 = .ok (.iload 6, 2) := by decide +kernel
theorem dMd_hash_111 : decode cMd_hash 111 = .ok (.if_icmp .ge 98, 3) := by decide +kernel
theorem dMd_hash_114 : decode cMd_hash 114 = .ok (.iconst 0, 1) := by decide +kernel
theorem dMd_hash_115 : decode cMd_hash 115 = .ok (.istore 8, 2) := by decide +kernel
theorem dMd_hash_117 : decode cMd_hash 117 = .ok (.iload 8, 2) := by decide +kernel
theorem dMd_hash_119 : decode cMd_hash 119 = .ok (.bipush 16, 2) := by decide +kernel
theorem dMd_hash_121 : decode cMd_hash 121 = .ok (.if_icmp .ge 72, 3) := by decide +kernel
theorem dMd_hash_124 : decode cMd_hash 124 = .ok (.aload_n 0, 1) := by decide +kernel
theorem dMd_hash_125 : decode cMd_hash 125 = .ok (.getfield 51, 3) := by decide +kernel
theorem dMd_hash_128 : decode cMd_hash 128 = .ok (.iload 8, 2) := by decide +kernel
theorem dMd_hash_130 : decode cMd_hash 130 = .ok (.lconst 0, 1) := by decide +kernel
theorem dMd_hash_131 : decode cMd_hash 131 = .ok (.lastore, 1) := by decide +kernel
theorem dMd_hash_132 : decode cMd_hash 132 = .ok (.iconst 0, 1) := by decide +kernel
theorem dMd_hash_133 : decode cMd_hash 133 = .ok (.istore 9, 2) := by decide +kernel
theorem dMd_hash_135 : decode cMd_hash 135 = .ok (.iload 9, 2) := by decide +kernel
theorem dMd_hash_137 : decode cMd_hash 137 = .ok (.iload 5, 2) := by decide +kernel
theorem dMd_hash_139 : decode cMd_hash 139 = .ok (.if_icmp .ge 48, 3) := by decide +kernel
theorem dMd_hash_142 : decode cMd_hash 142 = .ok (.aload_n 0, 1) := by decide +kernel
theorem dMd_hash_143 : decode cMd_hash 143 = .ok (.getfield 51, 3) := by decide +kernel
theorem dMd_hash_146 : decode cMd_hash 146 = .ok (.iload 8, 2) := by decide +kernel
theorem dMd_hash_148 : decode cMd_hash 148 = .ok (.aload_n 0, 1) := by decide +kernel
theorem dMd_hash_149 : decode cMd_hash 149 = .ok (.getfield 51, 3) := by decide +kernel
theorem dMd_hash_152 : decode cMd_hash 152 = .ok (.iload 8, 2) := by decide +kernel
theorem dMd_hash_154 : decode cMd_hash 154 = .ok (.laload, 1) := by decide +kernel
theorem dMd_hash_155 : decode cMd_hash 155 = .ok (.bipush 8, 2) := by decide +kernel
theorem dMd_hash_157 : decode cMd_hash 157 = .ok (.lshl, 1) := by decide +kernel
theorem dMd_hash_158 : decode cMd_hash 158 = .ok (.aload_n 2, 1) := by decide +kernel
theorem dMd_hash_159 : decode cMd_hash 159 = .ok (.iload_n 3, 1) := by decide +kernel
theorem dMd_hash_160 : decode cMd_hash 160 = .ok (.iload 4, 2) := by decide +kernel
theorem dMd_hash_162 : decode cMd_hash 162 = .ok (.iload 7, 2) := by decide +kernel
theorem dMd_hash_164 : decode cMd_hash 164 = .ok (.iload 5, 2) := by decide +kernel
theorem dMd_hash_166 : decode cMd_hash 166 = .ok (.iload 8, 2) := by decide +kernel
theorem dMd_hash_168 : decode cMd_hash 168 = .ok (.imul, 1) := by decide +kernel
theorem dMd_hash_169 : decode cMd_hash 169 = .ok (.iadd, 1) := by decide +kernel
theorem dMd_hash_170 : decode cMd_hash 170 = .ok (.iload 9, 2) := by decide +kernel
theorem dMd_hash_172 : decode cMd_hash 172 = .ok (.iadd, 1) := by decide +kernel
theorem dMd_hash_173 : decode cMd_hash 173 = .ok (.iload 6, 2) := by decide +kernel
theorem dMd_hash_175 : decode cMd_hash 175 = .ok (.invokestatic 102, 3) := by decide +kernel
theorem dMd_hash_178 : decode cMd_hash 178 = .ok (.i2l, 1) := by decide +kernel
theorem dMd_hash_179 : decode cMd_hash 179 = .ok (.lor, 1) := by decide +kernel
theorem dMd_hash_180 : decode cMd_hash 180 = .ok (.lastore, 1) := by decide +kernel
theorem dMd_hash_181 : decode cMd_hash 181 = .ok (.iinc 9 1, 3) := by decide +kernel
theorem dMd_hash_184 : decode cMd_hash 184 = .ok (.goto (-49), 3) := by decide +kernel
theorem dMd_hash_187 : decode cMd_hash 187 = .ok (.iinc 8 1, 3) := by decide +kernel
theorem dMd_hash_190 : decode cMd_hash 190 = .ok (.goto (-73), 3) := by decide +kernel
theorem dMd_hash_193 : decode cMd_hash 193 = .ok (.aload_n 0, 1) := by decide +kernel
theorem dMd_hash_194 : decode cMd_hash 194 = .ok (.invokevirtual 106, 3) := by decide +kernel
theorem dMd_hash_197 : decode cMd_hash 197 = .ok (.iload 7, 2) := by decide +kernel
theorem dMd_hash_199 : decode cMd_hash 199 = .ok (.iload_n 1, 1) := by decide +kernel
theorem dMd_hash_200 : decode cMd_hash 200 = .ok (.invokestatic 85, 3) := by decide +kernel
theorem dMd_hash_203 : decode cMd_hash 203 = .ok (.iadd, 1) := by decide +kernel
theorem dMd_hash_204 : decode cMd_hash 204 = .ok (.istore 7, 2) := by decide +kernel
theorem dMd_hash_206 : decode cMd_hash 206 = .ok (.goto (-99), 3) := by decide +kernel
theorem dMd_hash_209 : decode cMd_hash 209 = .ok (.iconst 0, 1) := by decide +kernel
theorem dMd_hash_210 : decode cMd_hash 210 = .ok (.istore 7, 2) := by decide +kernel
theorem dMd_hash_212 : decode cMd_hash 212 = .ok (.iload 7, 2) := by decide +kernel
theorem dMd_hash_214 : decode cMd_hash 214 = .ok (.iload_n 1, 1) := by decide +kernel
theorem dMd_hash_215 : decode cMd_hash 215 = .ok (.invokestatic 109, 3) := by decide +kernel
theorem dMd_hash_218 : decode cMd_hash 218 = .ok (.if_icmp .ge 42, 3) := by decide +kernel
theorem dMd_hash_221 : decode cMd_hash 221 = .ok (.aload_n 0, 1) := by decide +kernel
theorem dMd_hash_222 : decode cMd_hash 222 = .ok (.getfield 35, 3) := by decide +kernel
theorem dMd_hash_225 : decode cMd_hash 225 = .ok (.iload 7, 2) := by decide +kernel
theorem dMd_hash_227 : decode cMd_hash 227 = .ok (.aload_n 0, 1) := by decide +kernel
theorem dMd_hash_228 : decode cMd_hash 228 = .ok (.getfield 54, 3) := by decide +kernel
theorem dMd_hash_231 : decode cMd_hash 231 = .ok (.iload 7, 2) := by decide +kernel
theorem dMd_hash_233 : decode cMd_hash 233 = .ok (.iload 5, 2) := by decide +kernel
theorem dMd_hash_235 : decode cMd_hash 235 = .ok (.idiv, 1) := by decide +kernel
theorem dMd_hash_236 : decode cMd_hash 236 = .ok (.laload, 1) := by decide +kernel
theorem dMd_hash_237 : decode cMd_hash 237 = .ok (.bipush 8, 2) := by decide +kernel
theorem dMd_hash_239 : decode cMd_hash 239 = .ok (.iload 5, 2) := by decide +kernel
theorem dMd_hash_241 : decode cMd_hash 241 = .ok (.iconst 1, 1) := by decide +kernel
theorem dMd_hash_242 : decode cMd_hash 242 = .ok (.isub, 1) := by decide +kernel
theorem dMd_hash_243 : decode cMd_hash 243 = .ok (.iload 7, 2) := by decide +kernel
theorem dMd_hash_245 : decode cMd_hash 245 = .ok (.iload 5, 2) := by decide +kernel
theorem dMd_hash_247 : decode cMd_hash 247 = .ok (.irem, 1) := by decide +kernel
theorem dMd_hash_248 : decode cMd_hash 248 = .ok (.isub, 1) := by decide +kernel
theorem dMd_hash_249 : decode cMd_hash 249 = .ok (.imul, 1) := by decide +kernel
theorem dMd_hash_250 : decode cMd_hash 250 = .ok (.lushr, 1) := by decide +kernel
theorem dMd_hash_251 : decode cMd_hash 251 = .ok (.l2i, 1) := by decide +kernel
theorem dMd_hash_252 : decode cMd_hash 252 = .ok (.i2b, 1) := by decide +kernel
theorem dMd_hash_253 : decode cMd_hash 253 = .ok (.bastore, 1) := by decide +kernel
theorem dMd_hash_254 : decode cMd_hash 254 = .ok (.iinc 7 1, 3) := by decide +kernel
theorem dMd_hash_257 : decode cMd_hash 257 = .ok (.goto (-45), 3) := by decide +kernel
theorem dMd_hash_260 : decode cMd_hash 260 = .ok (.return_, 1) := by decide +kernel
theorem dMd_hmac_0 : decode cMd_hmac 0 = .ok (.aload_n 0, 1) := by decide +kernel
theorem dMd_hmac_1 : decode cMd_hmac 1 = .ok (.iconst 0, 1) := by decide +kernel
theorem dMd_hmac_2 : decode cMd_hmac 2 = .ok (.putfield 71, 3) := by decide +kernel
theorem dMd_hmac_5 : decode cMd_hmac 5 = .ok (.iload_n 1, 1) := by decide +kernel
theorem dMd_hmac_6 : decode cMd_hmac 6 = .ok (.invokestatic 139, 3) := by decide +kernel
theorem dMd_hmac_9 : decode cMd_hmac 9 = .ok (.ifCond .eq 9, 3) := by decide +kernel
theorem dMd_hmac_12 : decode cMd_hmac 12 = .ok (.aload_n 0, 1) := by decide +kernel
theorem dMd_hmac_13 : decode cMd_hmac 13 = .ok (.iconst 1, 1) := by decide +kernel
theorem dMd_hmac_14 : decode cMd_hmac 14 = .ok (.invokevirtual 136, 3) := by decide +kernel
theorem dMd_hmac_17 : decode cMd_hmac 17 = .ok (.ireturn, 1) := by decide +kernel
theorem dMd_hmac_18 : decode cMd_hmac 18 = .ok (.iconst 0, 1) := by decide +kernel
theorem dMd_hmac_19 : decode cMd_hmac 19 = .ok (.istore_n 2, 1) := by decide +kernel
theorem dMd_hmac_20 : decode cMd_hmac 20 = .ok (.iload_n 2, 1) := by decide +kernel
theorem dMd_hmac_21 : decode cMd_hmac 21 = .ok (.aload_n 0, 1) := by decide +kernel
theorem dMd_hmac_22 : decode cMd_hmac 22 = .ok (.getfield 132, 3) := by decide +kernel
theorem dMd_hmac_25 : decode cMd_hmac 25 = .ok (.if_icmp .ge 26, 3) := by decide +kernel
theorem dMd_hmac_28 : decode cMd_hmac 28 = .ok (.aload_n 0, 1) := by decide +kernel
theorem dMd_hmac_29 : decode cMd_hmac 29 = .ok (.getfield 32, 3) := by decide +kernel
theorem dMd_hmac_32 : decode cMd_hmac 32 = .ok (.iload_n 1, 1) := by decide +kernel
theorem dMd_hmac_33 : decode cMd_hmac 33 = .ok (.invokestatic 85, 3) := by decide +kernel
theorem dMd_hmac_36 : decode cMd_hmac 36 = .ok (.iload_n 2, 1) := by decide +kernel
theorem dMd_hmac_37 : decode cMd_hmac 37 = .ok (.iadd, 1) := by decide +kernel
theorem dMd_hmac_38 : decode cMd_hmac 38 = .ok (.aload_n 0, 1) := by decide +kernel
theorem dMd_hmac_39 : decode cMd_hmac 39 = .ok (.getfield 8, 3) := by decide +kernel
theorem dMd_hmac_42 : decode cMd_hmac 42 = .ok (.iload_n 2, 1) := by decide +kernel
theorem dMd_hmac_43 : decode cMd_hmac 43 = .ok (.baload, 1) := by decide +kernel
theorem dMd_hmac_44 : decode cMd_hmac 44 = .ok (.bastore, 1) := by decide +kernel
theorem dMd_hmac_45 : decode cMd_hmac 45 = .ok (.iinc 2 1, 3) := by decide +kernel
theorem dMd_hmac_48 : decode cMd_hmac 48 = .ok (.goto (-28), 3) := by decide +kernel
theorem dMd_hmac_51 : decode cMd_hmac 51 = .ok (.aload_n 0, 1) := by decide +kernel
theorem dMd_hmac_52 : decode cMd_hmac 52 = .ok (.iload_n 1, 1) := by decide +kernel
theorem dMd_hmac_53 : decode cMd_hmac 53 = .ok (.invokevirtual 147, 3) := by decide +kernel
theorem dMd_hmac_56 : decode cMd_hmac 56 = .ok (.aload_n 0, 1) := by decide +kernel
theorem dMd_hmac_57 : decode cMd_hmac 57 = .ok (.iload_n 1, 1) := by decide +kernel
theorem dMd_hmac_58 : decode cMd_hmac 58 = .ok (.aload_n 0, 1) := by decide +kernel
theorem dMd_hmac_59 : decode cMd_hmac 59 = .ok (.getfield 132, 3) := by decide +kernel
theorem dMd_hmac_62 : decode cMd_hmac 62 = .ok (.invokevirtual 151, 3) := by decide +kernel
theorem dMd_hmac_65 : decode cMd_hmac 65 = .ok (.aload_n 0, 1) := by decide +kernel
theorem dMd_hmac_66 : decode cMd_hmac 66 = .ok (.iconst 0, 1) := by decide +kernel
theorem dMd_hmac_67 : decode cMd_hmac 67 = .ok (.putfield 132, 3) := by decide +kernel
theorem dMd_hmac_70 : decode cMd_hmac 70 = .ok (.aload_n 0, 1) := by decide +kernel
theorem dMd_hmac_71 : decode cMd_hmac 71 = .ok (.iload_n 1, 1) := by decide +kernel
theorem dMd_hmac_72 : decode cMd_hmac 72 = .ok (.invokestatic 109, 3) := by decide +kernel
theorem dMd_hmac_75 : decode cMd_hmac 75 = .ok (.putfield 144, 3) := by decide +kernel
theorem dMd_hmac_78 : decode cMd_hmac 78 = .ok (.iconst 0, 1) := by decide +kernel
theorem dMd_hmac_79 : decode cMd_hmac 79 = .ok (.istore_n 2, 1) := by decide +kernel
theorem dMd_hmac_80 : decode cMd_hmac 80 = .ok (.iload_n 2, 1) := by decide +kernel
theorem dMd_hmac_81 : decode cMd_hmac 81 = .ok (.aload_n 0, 1) := by decide +kernel
theorem dMd_hmac_82 : decode cMd_hmac 82 = .ok (.getfield 144, 3) := by decide +kernel
theorem dMd_hmac_85 : decode cMd_hmac 85 = .ok (.if_icmp .ge 21, 3) := by decide +kernel
theorem dMd_hmac_88 : decode cMd_hmac 88 = .ok (.aload_n 0, 1) := by decide +kernel
theorem dMd_hmac_89 : decode cMd_hmac 89 = .ok (.getfield 17, 3) := by decide +kernel
theorem dMd_hmac_92 : decode cMd_hmac 92 = .ok (.iload_n 2, 1) := by decide +kernel
theorem dMd_hmac_93 : decode cMd_hmac 93 = .ok (.aload_n 0, 1) := by decide +kernel
theorem dMd_hmac_94 : decode cMd_hmac 94 = .ok (.getfield 35, 3) := by decide +kernel
theorem dMd_hmac_97 : decode cMd_hmac 97 = .ok (.iload_n 2, 1) := by decide +kernel
theorem dMd_hmac_98 : decode cMd_hmac 98 = .ok (.baload, 1) := by decide +kernel
theorem dMd_hmac_99 : decode cMd_hmac 99 = .ok (.bastore, 1) := by decide +kernel
theorem dMd_hmac_100 : decode cMd_hmac 100 = .ok (.iinc 2 1, 3) := by decide +kernel
theorem dMd_hmac_103 : decode cMd_hmac 103 = .ok (.goto (-23), 3) := by decide +kernel
theorem dMd_hmac_106 : decode cMd_hmac 106 = .ok (.aload_n 0, 1) := by decide +kernel
theorem dMd_hmac_107 : decode cMd_hmac 107 = .ok (.getfield 144, 3) := by decide +kernel
theorem dMd_hmac_110 : decode cMd_hmac 110 = .ok (.ireturn, 1) := by decide +kernel
theorem dMd_keep_0 : decode cMd_keep 0 = .ok (.aload_n 0, 1) := by decide +kernel
theorem dMd_keep_1 : decode cMd_keep 1 = .ok (.iconst 0, 1) := by decide +kernel
theorem dMd_keep_2 : decode cMd_keep 2 = .ok (.putfield 71, 3) := by decide +kernel
theorem dMd_keep_5 : decode cMd_keep 5 = .ok (.iconst 0, 1) := by decide +kernel
theorem dMd_keep_6 : decode cMd_keep 6 = .ok (.istore_n 1, 1) := by decide +kernel
theorem dMd_keep_7 : decode cMd_keep 7 = .ok (.iload_n 1, 1) := by decide +kernel
theorem dMd_keep_8 : decode cMd_keep 8 = .ok (.aload_n 0, 1) := by decide +kernel
theorem dMd_keep_9 : decode cMd_keep 9 = .ok (.getfield 144, 3) := by decide +kernel
theorem dMd_keep_12 : decode cMd_keep 12 = .ok (.if_icmp .ge 21, 3) := by decide +kernel
theorem dMd_keep_15 : decode cMd_keep 15 = .ok (.aload_n 0, 1) := by decide +kernel
theorem dMd_keep_16 : decode cMd_keep 16 = .ok (.getfield 14, 3) := by decide +kernel
theorem dMd_keep_19 : decode cMd_keep 19 = .ok (.iload_n 1, 1) := by decide +kernel
theorem dMd_keep_20 : decode cMd_keep 20 = .ok (.aload_n 0, 1) := by decide +kernel
theorem dMd_keep_21 : decode cMd_keep 21 = .ok (.getfield 17, 3) := by decide +kernel
theorem dMd_keep_24 : decode cMd_keep 24 = .ok (.iload_n 1, 1) := by decide +kernel
theorem dMd_keep_25 : decode cMd_keep 25 = .ok (.baload, 1) := by decide +kernel
theorem dMd_keep_26 : decode cMd_keep 26 = .ok (.bastore, 1) := by decide +kernel
theorem dMd_keep_27 : decode cMd_keep 27 = .ok (.iinc 1 1, 3) := by decide +kernel
theorem dMd_keep_30 : decode cMd_keep 30 = .ok (.goto (-23), 3) := by decide +kernel
theorem dMd_keep_33 : decode cMd_keep 33 = .ok (.aload_n 0, 1) := by decide +kernel
theorem dMd_keep_34 : decode cMd_keep 34 = .ok (.aload_n 0, 1) := by decide +kernel
theorem dMd_keep_35 : decode cMd_keep 35 = .ok (.getfield 144, 3) := by decide +kernel
theorem dMd_keep_38 : decode cMd_keep 38 = .ok (.putfield 125, 3) := by decide +kernel
theorem dMd_keep_41 : decode cMd_keep 41 = .ok (.aload_n 0, 1) := by decide +kernel
theorem dMd_keep_42 : decode cMd_keep 42 = .ok (.getfield 125, 3) := by decide +kernel
theorem dMd_keep_45 : decode cMd_keep 45 = .ok (.ireturn, 1) := by decide +kernel
theorem dMd_key_0 : decode cMd_key 0 = .ok (.aload_n 0, 1) := by decide +kernel
theorem dMd_key_1 : decode cMd_key 1 = .ok (.iconst 0, 1) := by decide +kernel
theorem dMd_key_2 : decode cMd_key 2 = .ok (.putfield 71, 3) := by decide +kernel
theorem dMd_key_5 : decode cMd_key 5 = .ok (.iconst 0, 1) := by decide +kernel
theorem dMd_key_6 : decode cMd_key 6 = .ok (.istore_n 1, 1) := by decide +kernel
theorem dMd_key_7 : decode cMd_key 7 = .ok (.iload_n 1, 1) := by decide +kernel
theorem dMd_key_8 : decode cMd_key 8 = .ok (.aload_n 0, 1) := by decide +kernel
theorem dMd_key_9 : decode cMd_key 9 = .ok (.getfield 132, 3) := by decide +kernel
theorem dMd_key_12 : decode cMd_key 12 = .ok (.if_icmp .ge 21, 3) := by decide +kernel
theorem dMd_key_15 : decode cMd_key 15 = .ok (.aload_n 0, 1) := by decide +kernel
theorem dMd_key_16 : decode cMd_key 16 = .ok (.getfield 14, 3) := by decide +kernel
theorem dMd_key_19 : decode cMd_key 19 = .ok (.iload_n 1, 1) := by decide +kernel
theorem dMd_key_20 : decode cMd_key 20 = .ok (.aload_n 0, 1) := by decide +kernel
theorem dMd_key_21 : decode cMd_key 21 = .ok (.getfield 8, 3) := by decide +kernel
theorem dMd_key_24 : decode cMd_key 24 = .ok (.iload_n 1, 1) := by decide +kernel
theorem dMd_key_25 : decode cMd_key 25 = .ok (.baload, 1) := by decide +kernel
theorem dMd_key_26 : decode cMd_key 26 = .ok (.bastore, 1) := by decide +kernel
theorem dMd_key_27 : decode cMd_key 27 = .ok (.iinc 1 1, 3) := by decide +kernel
theorem dMd_key_30 : decode cMd_key 30 = .ok (.goto (-23), 3) := by decide +kernel
theorem dMd_key_33 : decode cMd_key 33 = .ok (.aload_n 0, 1) := by decide +kernel
theorem dMd_key_34 : decode cMd_key 34 = .ok (.aload_n 0, 1) := by decide +kernel
theorem dMd_key_35 : decode cMd_key 35 = .ok (.getfield 132, 3) := by decide +kernel
theorem dMd_key_38 : decode cMd_key 38 = .ok (.putfield 125, 3) := by decide +kernel
theorem dMd_key_41 : decode cMd_key 41 = .ok (.aload_n 0, 1) := by decide +kernel
theorem dMd_key_42 : decode cMd_key 42 = .ok (.iconst 0, 1) := by decide +kernel
theorem dMd_key_43 : decode cMd_key 43 = .ok (.putfield 132, 3) := by decide +kernel
theorem dMd_key_46 : decode cMd_key 46 = .ok (.aload_n 0, 1) := by decide +kernel
theorem dMd_key_47 : decode cMd_key 47 = .ok (.getfield 125, 3) := by decide +kernel
theorem dMd_key_50 : decode cMd_key 50 = .ok (.ireturn, 1) := by decide +kernel
theorem dMd_keyed_0 : decode cMd_keyed 0 = .ok (.iload_n 1, 1) := by decide +kernel
theorem dMd_keyed_1 : decode cMd_keyed 1 = .ok (.invokestatic 85, 3) := by decide +kernel
theorem dMd_keyed_4 : decode cMd_keyed 4 = .ok (.istore_n 3, 1) := by decide +kernel
theorem dMd_keyed_5 : decode cMd_keyed 5 = .ok (.aload_n 0, 1) := by decide +kernel
theorem dMd_keyed_6 : decode cMd_keyed 6 = .ok (.getfield 125, 3) := by decide +kernel
theorem dMd_keyed_9 : decode cMd_keyed 9 = .ok (.iload_n 3, 1) := by decide +kernel
theorem dMd_keyed_10 : decode cMd_keyed 10 = .ok (.if_icmp .le 20, 3) := by decide +kernel
theorem dMd_keyed_13 : decode cMd_keyed 13 = .ok (.aload_n 0, 1) := by decide +kernel
theorem dMd_keyed_14 : decode cMd_keyed 14 = .ok (.getfield 28, 3) := by decide +kernel
theorem dMd_keyed_17 : decode cMd_keyed 17 = .ok (.iload_n 1, 1) := by decide +kernel
theorem dMd_keyed_18 : decode cMd_keyed 18 = .ok (.dup2, 1) := by decide +kernel
theorem dMd_keyed_19 : decode cMd_keyed 19 = .ok (.iaload, 1) := by decide +kernel
theorem dMd_keyed_20 : decode cMd_keyed 20 = .ok (.iload_n 1, 1) := by decide +kernel
theorem dMd_keyed_21 : decode cMd_keyed 21 = .ok (.aload_n 0, 1) := by decide +kernel
theorem dMd_keyed_22 : decode cMd_keyed 22 = .ok (.getfield 125, 3) := by decide +kernel
theorem dMd_keyed_25 : decode cMd_keyed 25 = .ok (.invokestatic 98, 3) := by decide +kernel
theorem dMd_keyed_28 : decode cMd_keyed 28 = .ok (.iadd, 1) := by decide +kernel
theorem dMd_keyed_29 : decode cMd_keyed 29 = .ok (.iastore, 1) := by decide +kernel
theorem dMd_keyed_30 : decode cMd_keyed 30 = .ok (.iconst 0, 1) := by decide +kernel
theorem dMd_keyed_31 : decode cMd_keyed 31 = .ok (.istore 4, 2) := by decide +kernel
theorem dMd_keyed_33 : decode cMd_keyed 33 = .ok (.iload 4, 2) := by decide +kernel
theorem dMd_keyed_35 : decode cMd_keyed 35 = .ok (.iload_n 3, 1) := by decide +kernel
theorem dMd_keyed_36 : decode cMd_keyed 36 = .ok (.if_icmp .ge 27, 3) := by decide +kernel
theorem dMd_keyed_39 : decode cMd_keyed 39 = .ok (.aload_n 0, 1) := by decide +kernel
theorem dMd_keyed_40 : decode cMd_keyed 40 = .ok (.getfield 32, 3) := by decide +kernel
theorem dMd_keyed_43 : decode cMd_keyed 43 = .ok (.iload 4, 2) := by decide +kernel
theorem dMd_keyed_45 : decode cMd_keyed 45 = .ok (.aload_n 0, 1) := by decide +kernel
theorem dMd_keyed_46 : decode cMd_keyed 46 = .ok (.getfield 41, 3) := by decide +kernel
theorem dMd_keyed_49 : decode cMd_keyed 49 = .ok (.iload 4, 2) := by decide +kernel
theorem dMd_keyed_51 : decode cMd_keyed 51 = .ok (.baload, 1) := by decide +kernel
theorem dMd_keyed_52 : decode cMd_keyed 52 = .ok (.bipush 54, 2) := by decide +kernel
theorem dMd_keyed_54 : decode cMd_keyed 54 = .ok (.ixor, 1) := by decide +kernel
theorem dMd_keyed_55 : decode cMd_keyed 55 = .ok (.i2b, 1) := by decide +kernel
theorem dMd_keyed_56 : decode cMd_keyed 56 = .ok (.bastore, 1) := by decide +kernel
theorem dMd_keyed_57 : decode cMd_keyed 57 = .ok (.iinc 4 1, 3) := by decide +kernel
theorem dMd_keyed_60 : decode cMd_keyed 60 = .ok (.goto (-27), 3) := by decide +kernel
theorem dMd_keyed_63 : decode cMd_keyed 63 = .ok (.aload_n 0, 1) := by decide +kernel
theorem dMd_keyed_64 : decode cMd_keyed 64 = .ok (.iload_n 1, 1) := by decide +kernel
theorem dMd_keyed_65 : decode cMd_keyed 65 = .ok (.aload_n 0, 1) := by decide +kernel
theorem dMd_keyed_66 : decode cMd_keyed 66 = .ok (.getfield 32, 3) := by decide +kernel
theorem dMd_keyed_69 : decode cMd_keyed 69 = .ok (.iconst 0, 1) := by decide +kernel
theorem dMd_keyed_70 : decode cMd_keyed 70 = .ok (.iload_n 3, 1) := by decide +kernel
theorem dMd_keyed_71 : decode cMd_keyed 71 = .ok (.iload_n 2, 1) := by decide +kernel
theorem dMd_keyed_72 : decode cMd_keyed 72 = .ok (.iadd, 1) := by decide +kernel
theorem dMd_keyed_73 : decode cMd_keyed 73 = .ok (.invokevirtual 128, 3) := by decide +kernel
theorem dMd_keyed_76 : decode cMd_keyed 76 = .ok (.aload_n 0, 1) := by decide +kernel
theorem dMd_keyed_77 : decode cMd_keyed 77 = .ok (.getfield 28, 3) := by decide +kernel
theorem dMd_keyed_80 : decode cMd_keyed 80 = .ok (.iload_n 1, 1) := by decide +kernel
theorem dMd_keyed_81 : decode cMd_keyed 81 = .ok (.dup2, 1) := by decide +kernel
theorem dMd_keyed_82 : decode cMd_keyed 82 = .ok (.iaload, 1) := by decide +kernel
theorem dMd_keyed_83 : decode cMd_keyed 83 = .ok (.iload_n 1, 1) := by decide +kernel
theorem dMd_keyed_84 : decode cMd_keyed 84 = .ok (.iload_n 3, 1) := by decide +kernel
theorem dMd_keyed_85 : decode cMd_keyed 85 = .ok (.iload_n 2, 1) := by decide +kernel
theorem dMd_keyed_86 : decode cMd_keyed 86 = .ok (.iadd, 1) := by decide +kernel
theorem dMd_keyed_87 : decode cMd_keyed 87 = .ok (.invokestatic 98, 3) := by decide +kernel
theorem dMd_keyed_90 : decode cMd_keyed 90 = .ok (.iload_n 1, 1) := by decide +kernel
theorem dMd_keyed_91 : decode cMd_keyed 91 = .ok (.iload_n 3, 1) := by decide +kernel
theorem dMd_keyed_92 : decode cMd_keyed 92 = .ok (.iload_n 1, 1) := by decide +kernel
theorem dMd_keyed_93 : decode cMd_keyed 93 = .ok (.invokestatic 109, 3) := by decide +kernel
theorem dMd_keyed_96 : decode cMd_keyed 96 = .ok (.iadd, 1) := by decide +kernel
theorem dMd_keyed_97 : decode cMd_keyed 97 = .ok (.invokestatic 98, 3) := by decide +kernel
theorem dMd_keyed_100 : decode cMd_keyed 100 = .ok (.iadd, 1) := by decide +kernel
theorem dMd_keyed_101 : decode cMd_keyed 101 = .ok (.iadd, 1) := by decide +kernel
theorem dMd_keyed_102 : decode cMd_keyed 102 = .ok (.iastore, 1) := by decide +kernel
theorem dMd_keyed_103 : decode cMd_keyed 103 = .ok (.iconst 0, 1) := by decide +kernel
theorem dMd_keyed_104 : decode cMd_keyed 104 = .ok (.istore 4, 2) := by decide +kernel
theorem dMd_keyed_106 : decode cMd_keyed 106 = .ok (.iload 4, 2) := by decide +kernel
theorem dMd_keyed_108 : decode cMd_keyed 108 = .ok (.iload_n 1, 1) := by decide +kernel
theorem dMd_keyed_109 : decode cMd_keyed 109 = .ok (.invokestatic 109, 3) := by decide +kernel
theorem dMd_keyed_112 : decode cMd_keyed 112 = .ok (.if_icmp .ge 23, 3) := by decide +kernel
theorem dMd_keyed_115 : decode cMd_keyed 115 = .ok (.aload_n 0, 1) := by decide +kernel
theorem dMd_keyed_116 : decode cMd_keyed 116 = .ok (.getfield 38, 3) := by decide +kernel
theorem dMd_keyed_119 : decode cMd_keyed 119 = .ok (.iload 4, 2) := by decide +kernel
theorem dMd_keyed_121 : decode cMd_keyed 121 = .ok (.aload_n 0, 1) := by decide +kernel
theorem dMd_keyed_122 : decode cMd_keyed 122 = .ok (.getfield 35, 3) := by decide +kernel
theorem dMd_keyed_125 : decode cMd_keyed 125 = .ok (.iload 4, 2) := by decide +kernel
theorem dMd_keyed_127 : decode cMd_keyed 127 = .ok (.baload, 1) := by decide +kernel
theorem dMd_keyed_128 : decode cMd_keyed 128 = .ok (.bastore, 1) := by decide +kernel
theorem dMd_keyed_129 : decode cMd_keyed 129 = .ok (.iinc 4 1, 3) := by decide +kernel
theorem dMd_keyed_132 : decode cMd_keyed 132 = .ok (.goto (-26), 3) := by decide +kernel
theorem dMd_keyed_135 : decode cMd_keyed 135 = .ok (.iconst 0, 1) := by decide +kernel
theorem dMd_keyed_136 : decode cMd_keyed 136 = .ok (.istore 4, 2) := by decide +kernel
theorem dMd_keyed_138 : decode cMd_keyed 138 = .ok (.iload 4, 2) := by decide +kernel
theorem dMd_keyed_140 : decode cMd_keyed 140 = .ok (.iload_n 3, 1) := by decide +kernel
theorem dMd_keyed_141 : decode cMd_keyed 141 = .ok (.if_icmp .ge 27, 3) := by decide +kernel
theorem dMd_keyed_144 : decode cMd_keyed 144 = .ok (.aload_n 0, 1) := by decide +kernel
theorem dMd_keyed_145 : decode cMd_keyed 145 = .ok (.getfield 32, 3) := by decide +kernel
theorem dMd_keyed_148 : decode cMd_keyed 148 = .ok (.iload 4, 2) := by decide +kernel
theorem dMd_keyed_150 : decode cMd_keyed 150 = .ok (.aload_n 0, 1) := by decide +kernel
theorem dMd_keyed_151 : decode cMd_keyed 151 = .ok (.getfield 41, 3) := by decide +kernel
theorem dMd_keyed_154 : decode cMd_keyed 154 = .ok (.iload 4, 2) := by decide +kernel
theorem dMd_keyed_156 : decode cMd_keyed 156 = .ok (.baload, 1) := by decide +kernel
theorem dMd_keyed_157 : decode cMd_keyed 157 = .ok (.bipush 92, 2) := by decide +kernel
theorem dMd_keyed_159 : decode cMd_keyed 159 = .ok (.ixor, 1) := by decide +kernel
theorem dMd_keyed_160 : decode cMd_keyed 160 = .ok (.i2b, 1) := by decide +kernel
theorem dMd_keyed_161 : decode cMd_keyed 161 = .ok (.bastore, 1) := by decide +kernel
theorem dMd_keyed_162 : decode cMd_keyed 162 = .ok (.iinc 4 1, 3) := by decide +kernel
theorem dMd_keyed_165 : decode cMd_keyed 165 = .ok (.goto (-27), 3) := by decide +kernel
theorem dMd_keyed_168 : decode cMd_keyed 168 = .ok (.iconst 0, 1) := by decide +kernel
theorem dMd_keyed_169 : decode cMd_keyed 169 = .ok (.istore 4, 2) := by decide +kernel
theorem dMd_keyed_171 : decode cMd_keyed 171 = .ok (.iload 4, 2) := by decide +kernel
theorem dMd_keyed_173 : decode cMd_keyed 173 = .ok (.iload_n 1, 1) := by decide +kernel
theorem dMd_keyed_174 : decode cMd_keyed 174 = .ok (.invokestatic 109, 3) := by decide +kernel
theorem dMd_keyed_177 : decode cMd_keyed 177 = .ok (.if_icmp .ge 25, 3) := by decide +kernel
theorem dMd_keyed_180 : decode cMd_keyed 180 = .ok (.aload_n 0, 1) := by decide +kernel
theorem dMd_keyed_181 : decode cMd_keyed 181 = .ok (.getfield 32, 3) := by decide +kernel
theorem dMd_keyed_184 : decode cMd_keyed 184 = .ok (.iload_n 3, 1) := by decide +kernel
theorem dMd_keyed_185 : decode cMd_keyed 185 = .ok (.iload 4, 2) := by decide +kernel
theorem dMd_keyed_187 : decode cMd_keyed 187 = .ok (.iadd, 1) := by decide +kernel
theorem dMd_keyed_188 : decode cMd_keyed 188 = .ok (.aload_n 0, 1) := by decide +kernel
theorem dMd_keyed_189 : decode cMd_keyed 189 = .ok (.getfield 38, 3) := by decide +kernel
theorem dMd_keyed_192 : decode cMd_keyed 192 = .ok (.iload 4, 2) := by decide +kernel
theorem dMd_keyed_194 : decode cMd_keyed 194 = .ok (.baload, 1) := by decide +kernel
theorem dMd_keyed_195 : decode cMd_keyed 195 = .ok (.bastore, 1) := by decide +kernel
theorem dMd_keyed_196 : decode cMd_keyed 196 = .ok (.iinc 4 1, 3) := by decide +kernel
theorem dMd_keyed_199 : decode cMd_keyed 199 = .ok (.goto (-28), 3) := by decide +kernel
theorem dMd_keyed_202 : decode cMd_keyed 202 = .ok (.aload_n 0, 1) := by decide +kernel
theorem dMd_keyed_203 : decode cMd_keyed 203 = .ok (.iload_n 1, 1) := by decide +kernel
theorem dMd_keyed_204 : decode cMd_keyed 204 = .ok (.aload_n 0, 1) := by decide +kernel
theorem dMd_keyed_205 : decode cMd_keyed 205 = .ok (.getfield 32, 3) := by decide +kernel
theorem dMd_keyed_208 : decode cMd_keyed 208 = .ok (.iconst 0, 1) := by decide +kernel
theorem dMd_keyed_209 : decode cMd_keyed 209 = .ok (.iload_n 3, 1) := by decide +kernel
theorem dMd_keyed_210 : decode cMd_keyed 210 = .ok (.iload_n 1, 1) := by decide +kernel
theorem dMd_keyed_211 : decode cMd_keyed 211 = .ok (.invokestatic 109, 3) := by decide +kernel
theorem dMd_keyed_214 : decode cMd_keyed 214 = .ok (.iadd, 1) := by decide +kernel
theorem dMd_keyed_215 : decode cMd_keyed 215 = .ok (.invokevirtual 128, 3) := by decide +kernel
theorem dMd_keyed_218 : decode cMd_keyed 218 = .ok (.return_, 1) := by decide +kernel
theorem dMd_mixed_0 : decode cMd_mixed 0 = .ok (.aload_n 0, 1) := by decide +kernel
theorem dMd_mixed_1 : decode cMd_mixed 1 = .ok (.lload_n 1, 1) := by decide +kernel
theorem dMd_mixed_2 : decode cMd_mixed 2 = .ok (.iload_n 3, 1) := by decide +kernel
theorem dMd_mixed_3 : decode cMd_mixed 3 = .ok (.invokevirtual 92, 3) := by decide +kernel
theorem dMd_mixed_6 : decode cMd_mixed 6 = .ok (.aload_n 0, 1) := by decide +kernel
theorem dMd_mixed_7 : decode cMd_mixed 7 = .ok (.lload_n 1, 1) := by decide +kernel
theorem dMd_mixed_8 : decode cMd_mixed 8 = .ok (.iload 4, 2) := by decide +kernel
theorem dMd_mixed_10 : decode cMd_mixed 10 = .ok (.invokevirtual 92, 3) := by decide +kernel
theorem dMd_mixed_13 : decode cMd_mixed 13 = .ok (.lxor, 1) := by decide +kernel
theorem dMd_mixed_14 : decode cMd_mixed 14 = .ok (.aload_n 0, 1) := by decide +kernel
theorem dMd_mixed_15 : decode cMd_mixed 15 = .ok (.lload_n 1, 1) := by decide +kernel
theorem dMd_mixed_16 : decode cMd_mixed 16 = .ok (.iload 5, 2) := by decide +kernel
theorem dMd_mixed_18 : decode cMd_mixed 18 = .ok (.invokevirtual 92, 3) := by decide +kernel
theorem dMd_mixed_21 : decode cMd_mixed 21 = .ok (.lxor, 1) := by decide +kernel
theorem dMd_mixed_22 : decode cMd_mixed 22 = .ok (.lreturn, 1) := by decide +kernel
theorem dMd_more_0 : decode cMd_more 0 = .ok (.aload_n 0, 1) := by decide +kernel
theorem dMd_more_1 : decode cMd_more 1 = .ok (.iconst 0, 1) := by decide +kernel
theorem dMd_more_2 : decode cMd_more 2 = .ok (.putfield 71, 3) := by decide +kernel
theorem dMd_more_5 : decode cMd_more 5 = .ok (.iload_n 1, 1) := by decide +kernel
theorem dMd_more_6 : decode cMd_more 6 = .ok (.invokestatic 139, 3) := by decide +kernel
theorem dMd_more_9 : decode cMd_more 9 = .ok (.ifCond .eq 10, 3) := by decide +kernel
theorem dMd_more_12 : decode cMd_more 12 = .ok (.aload_n 0, 1) := by decide +kernel
theorem dMd_more_13 : decode cMd_more 13 = .ok (.iconst 1, 1) := by decide +kernel
theorem dMd_more_14 : decode cMd_more 14 = .ok (.invokevirtual 136, 3) := by decide +kernel
theorem dMd_more_17 : decode cMd_more 17 = .ok (.i2l, 1) := by decide +kernel
theorem dMd_more_18 : decode cMd_more 18 = .ok (.lreturn, 1) := by decide +kernel
theorem dMd_more_19 : decode cMd_more 19 = .ok (.aload_n 0, 1) := by decide +kernel
theorem dMd_more_20 : decode cMd_more 20 = .ok (.getfield 24, 3) := by decide +kernel
theorem dMd_more_23 : decode cMd_more 23 = .ok (.iload_n 1, 1) := by decide +kernel
theorem dMd_more_24 : decode cMd_more 24 = .ok (.iaload, 1) := by decide +kernel
theorem dMd_more_25 : decode cMd_more 25 = .ok (.iload_n 1, 1) := by decide +kernel
theorem dMd_more_26 : decode cMd_more 26 = .ok (.invokestatic 85, 3) := by decide +kernel
theorem dMd_more_29 : decode cMd_more 29 = .ok (.idiv, 1) := by decide +kernel
theorem dMd_more_30 : decode cMd_more 30 = .ok (.istore_n 2, 1) := by decide +kernel
theorem dMd_more_31 : decode cMd_more 31 = .ok (.iconst 0, 1) := by decide +kernel
theorem dMd_more_32 : decode cMd_more 32 = .ok (.istore_n 3, 1) := by decide +kernel
theorem dMd_more_33 : decode cMd_more 33 = .ok (.iload_n 3, 1) := by decide +kernel
theorem dMd_more_34 : decode cMd_more 34 = .ok (.aload_n 0, 1) := by decide +kernel
theorem dMd_more_35 : decode cMd_more 35 = .ok (.getfield 132, 3) := by decide +kernel
theorem dMd_more_38 : decode cMd_more 38 = .ok (.if_icmp .ge 33, 3) := by decide +kernel
theorem dMd_more_41 : decode cMd_more 41 = .ok (.aload_n 0, 1) := by decide +kernel
theorem dMd_more_42 : decode cMd_more 42 = .ok (.getfield 21, 3) := by decide +kernel
theorem dMd_more_45 : decode cMd_more 45 = .ok (.ldc 143, 2) := by decide +kernel
theorem dMd_more_47 : decode cMd_more 47 = .ok (.iload_n 1, 1) := by decide +kernel
theorem dMd_more_48 : decode cMd_more 48 = .ok (.imul, 1) := by decide +kernel
theorem dMd_more_49 : decode cMd_more 49 = .ok (.aload_n 0, 1) := by decide +kernel
theorem dMd_more_50 : decode cMd_more 50 = .ok (.getfield 24, 3) := by decide +kernel
theorem dMd_more_53 : decode cMd_more 53 = .ok (.iload_n 1, 1) := by decide +kernel
theorem dMd_more_54 : decode cMd_more 54 = .ok (.iaload, 1) := by decide +kernel
theorem dMd_more_55 : decode cMd_more 55 = .ok (.iadd, 1) := by decide +kernel
theorem dMd_more_56 : decode cMd_more 56 = .ok (.iload_n 3, 1) := by decide +kernel
theorem dMd_more_57 : decode cMd_more 57 = .ok (.iadd, 1) := by decide +kernel
theorem dMd_more_58 : decode cMd_more 58 = .ok (.aload_n 0, 1) := by decide +kernel
theorem dMd_more_59 : decode cMd_more 59 = .ok (.getfield 8, 3) := by decide +kernel
theorem dMd_more_62 : decode cMd_more 62 = .ok (.iload_n 3, 1) := by decide +kernel
theorem dMd_more_63 : decode cMd_more 63 = .ok (.baload, 1) := by decide +kernel
theorem dMd_more_64 : decode cMd_more 64 = .ok (.bastore, 1) := by decide +kernel
theorem dMd_more_65 : decode cMd_more 65 = .ok (.iinc 3 1, 3) := by decide +kernel
theorem dMd_more_68 : decode cMd_more 68 = .ok (.goto (-35), 3) := by decide +kernel
theorem dMd_more_71 : decode cMd_more 71 = .ok (.aload_n 0, 1) := by decide +kernel
theorem dMd_more_72 : decode cMd_more 72 = .ok (.getfield 24, 3) := by decide +kernel
theorem dMd_more_75 : decode cMd_more 75 = .ok (.iload_n 1, 1) := by decide +kernel
theorem dMd_more_76 : decode cMd_more 76 = .ok (.dup2, 1) := by decide +kernel
theorem dMd_more_77 : decode cMd_more 77 = .ok (.iaload, 1) := by decide +kernel
theorem dMd_more_78 : decode cMd_more 78 = .ok (.aload_n 0, 1) := by decide +kernel
theorem dMd_more_79 : decode cMd_more 79 = .ok (.getfield 132, 3) := by decide +kernel
theorem dMd_more_82 : decode cMd_more 82 = .ok (.iadd, 1) := by decide +kernel
theorem dMd_more_83 : decode cMd_more 83 = .ok (.iastore, 1) := by decide +kernel
theorem dMd_more_84 : decode cMd_more 84 = .ok (.aload_n 0, 1) := by decide +kernel
theorem dMd_more_85 : decode cMd_more 85 = .ok (.iconst 0, 1) := by decide +kernel
theorem dMd_more_86 : decode cMd_more 86 = .ok (.putfield 132, 3) := by decide +kernel
theorem dMd_more_89 : decode cMd_more 89 = .ok (.aload_n 0, 1) := by decide +kernel
theorem dMd_more_90 : decode cMd_more 90 = .ok (.getfield 28, 3) := by decide +kernel
theorem dMd_more_93 : decode cMd_more 93 = .ok (.iload_n 1, 1) := by decide +kernel
theorem dMd_more_94 : decode cMd_more 94 = .ok (.dup2, 1) := by decide +kernel
theorem dMd_more_95 : decode cMd_more 95 = .ok (.iaload, 1) := by decide +kernel
theorem dMd_more_96 : decode cMd_more 96 = .ok (.aload_n 0, 1) := by decide +kernel
theorem dMd_more_97 : decode cMd_more 97 = .ok (.getfield 24, 3) := by decide +kernel
theorem dMd_more_100 : decode cMd_more 100 = .ok (.iload_n 1, 1) := by decide +kernel
theorem dMd_more_101 : decode cMd_more 101 = .ok (.iaload, 1) := by decide +kernel
theorem dMd_more_102 : decode cMd_more 102 = .ok (.iload_n 1, 1) := by decide +kernel
theorem dMd_more_103 : decode cMd_more 103 = .ok (.invokestatic 85, 3) := by decide +kernel
theorem dMd_more_106 : decode cMd_more 106 = .ok (.idiv, 1) := by decide +kernel
theorem dMd_more_107 : decode cMd_more 107 = .ok (.iload_n 2, 1) := by decide +kernel
theorem dMd_more_108 : decode cMd_more 108 = .ok (.isub, 1) := by decide +kernel
theorem dMd_more_109 : decode cMd_more 109 = .ok (.iadd, 1) := by decide +kernel
theorem dMd_more_110 : decode cMd_more 110 = .ok (.iastore, 1) := by decide +kernel
theorem dMd_more_111 : decode cMd_more 111 = .ok (.aload_n 0, 1) := by decide +kernel
theorem dMd_more_112 : decode cMd_more 112 = .ok (.getfield 24, 3) := by decide +kernel
theorem dMd_more_115 : decode cMd_more 115 = .ok (.iload_n 1, 1) := by decide +kernel
theorem dMd_more_116 : decode cMd_more 116 = .ok (.iaload, 1) := by decide +kernel
theorem dMd_more_117 : decode cMd_more 117 = .ok (.i2l, 1) := by decide +kernel
theorem dMd_more_118 : decode cMd_more 118 = .ok (.lreturn, 1) := by decide +kernel
theorem dMd_over_0 : decode cMd_over 0 = .ok (.aload_n 0, 1) := by decide +kernel
theorem dMd_over_1 : decode cMd_over 1 = .ok (.getfield 88, 3) := by decide +kernel
theorem dMd_over_4 : decode cMd_over 4 = .ok (.ifCond .eq 8, 3) := by decide +kernel
theorem dMd_over_7 : decode cMd_over 7 = .ok (.bipush 80, 2) := by decide +kernel
theorem dMd_over_9 : decode cMd_over 9 = .ok (.goto 5, 3) := by decide +kernel
theorem dMd_over_12 : decode cMd_over 12 = .ok (.bipush 64, 2) := by decide +kernel
theorem dMd_over_14 : decode cMd_over 14 = .ok (.istore_n 1, 1) := by decide +kernel
theorem dMd_over_15 : decode cMd_over 15 = .ok (.bipush 16, 2) := by decide +kernel
theorem dMd_over_17 : decode cMd_over 17 = .ok (.istore_n 2, 1) := by decide +kernel
theorem dMd_over_18 : decode cMd_over 18 = .ok (.iload_n 2, 1) := by decide +kernel
theorem dMd_over_19 : decode cMd_over 19 = .ok (.iload_n 1, 1) := by decide +kernel
theorem dMd_over_20 : decode cMd_over 20 = .ok (.if_icmp .ge 138, 3) := by decide +kernel
theorem dMd_over_23 : decode cMd_over 23 = .ok (.aload_n 0, 1) := by decide +kernel
theorem dMd_over_24 : decode cMd_over 24 = .ok (.getfield 88, 3) := by decide +kernel
theorem dMd_over_27 : decode cMd_over 27 = .ok (.ifCond .eq 24, 3) := by decide +kernel
theorem dMd_over_30 : decode cMd_over 30 = .ok (.aload_n 0, 1) := by decide +kernel
theorem dMd_over_31 : decode cMd_over 31 = .ok (.aload_n 0, 1) := by decide +kernel
theorem dMd_over_32 : decode cMd_over 32 = .ok (.getfield 51, 3) := by decide +kernel
theorem dMd_over_35 : decode cMd_over 35 = .ok (.iload_n 2, 1) := by decide +kernel
theorem dMd_over_36 : decode cMd_over 36 = .ok (.bipush 15, 2) := by decide +kernel
theorem dMd_over_38 : decode cMd_over 38 = .ok (.isub, 1) := by decide +kernel
theorem dMd_over_39 : decode cMd_over 39 = .ok (.laload, 1) := by decide +kernel
theorem dMd_over_40 : decode cMd_over 40 = .ok (.iconst 1, 1) := by decide +kernel
theorem dMd_over_41 : decode cMd_over 41 = .ok (.bipush 8, 2) := by decide +kernel
theorem dMd_over_43 : decode cMd_over 43 = .ok (.bipush 7, 2) := by decide +kernel
theorem dMd_over_45 : decode cMd_over 45 = .ok (.invokevirtual 112, 3) := by decide +kernel
theorem dMd_over_48 : decode cMd_over 48 = .ok (.goto 21, 3) := by decide +kernel
theorem dMd_over_51 : decode cMd_over 51 = .ok (.aload_n 0, 1) := by decide +kernel
theorem dMd_over_52 : decode cMd_over 52 = .ok (.aload_n 0, 1) := by decide +kernel
theorem dMd_over_53 : decode cMd_over 53 = .ok (.getfield 51, 3) := by decide +kernel
theorem dMd_over_56 : decode cMd_over 56 = .ok (.iload_n 2, 1) := by decide +kernel
theorem dMd_over_57 : decode cMd_over 57 = .ok (.bipush 15, 2) := by decide +kernel
theorem dMd_over_59 : decode cMd_over 59 = .ok (.isub, 1) := by decide +kernel
theorem dMd_over_60 : decode cMd_over 60 = .ok (.laload, 1) := by decide +kernel
theorem dMd_over_61 : decode cMd_over 61 = .ok (.bipush 7, 2) := by decide +kernel
theorem dMd_over_63 : decode cMd_over 63 = .ok (.bipush 18, 2) := by decide +kernel
theorem dMd_over_65 : decode cMd_over 65 = .ok (.iconst 3, 1) := by decide +kernel
theorem dMd_over_66 : decode cMd_over 66 = .ok (.invokevirtual 112, 3) := by decide +kernel
theorem dMd_over_69 : decode cMd_over 69 = .ok (.lstore_n 3, 1) := by decide +kernel
theorem dMd_over_70 : decode cMd_over 70 = .ok (.aload_n 0, 1) := by decide +kernel
theorem dMd_over_71 : decode cMd_over 71 = .ok (.getfield 88, 3) := by decide +kernel
theorem dMd_over_74 : decode cMd_over 74 = .ok (.ifCond .eq 24, 3) := by decide +kernel
theorem dMd_over_77 : decode cMd_over 77 = .ok (.aload_n 0, 1) := by decide +kernel
theorem dMd_over_78 : decode cMd_over 78 = .ok (.aload_n 0, 1) := by decide +kernel
theorem dMd_over_79 : decode cMd_over 79 = .ok (.getfield 51, 3) := by decide +kernel
theorem dMd_over_82 : decode cMd_over 82 = .ok (.iload_n 2, 1) := by decide +kernel
theorem dMd_over_83 : decode cMd_over 83 = .ok (.iconst 2, 1) := by decide +kernel
theorem dMd_over_84 : decode cMd_over 84 = .ok (.isub, 1) := by decide +kernel
theorem dMd_over_85 : decode cMd_over 85 = .ok (.laload, 1) := by decide +kernel
theorem dMd_over_86 : decode cMd_over 86 = .ok (.bipush 19, 2) := by decide +kernel
theorem dMd_over_88 : decode cMd_over 88 = .ok (.bipush 61, 2) := by decide +kernel
theorem dMd_over_90 : decode cMd_over 90 = .ok (.bipush 6, 2) := by decide +kernel
theorem dMd_over_92 : decode cMd_over 92 = .ok (.invokevirtual 112, 3) := by decide +kernel
theorem dMd_over_95 : decode cMd_over 95 = .ok (.goto 21, 3) := by decide +kernel
theorem dMd_over_98 : decode cMd_over 98 = .ok (.aload_n 0, 1) := by decide +kernel
theorem dMd_over_99 : decode cMd_over 99 = .ok (.aload_n 0, 1) := by decide +kernel
theorem dMd_over_100 : decode cMd_over 100 = .ok (.getfield 51, 3) := by decide +kernel
theorem dMd_over_103 : decode cMd_over 103 = .ok (.iload_n 2, 1) := by decide +kernel
theorem dMd_over_104 : decode cMd_over 104 = .ok (.iconst 2, 1) := by decide +kernel
theorem dMd_over_105 : decode cMd_over 105 = .ok (.isub, 1) := by decide +kernel
theorem dMd_over_106 : decode cMd_over 106 = .ok (.laload, 1) := by decide +kernel
theorem dMd_over_107 : decode cMd_over 107 = .ok (.bipush 17, 2) := by decide +kernel
theorem dMd_over_109 : decode cMd_over 109 = .ok (.bipush 19, 2) := by decide +kernel
theorem dMd_over_111 : decode cMd_over 111 = .ok (.bipush 10, 2) := by decide +kernel
theorem dMd_over_113 : decode cMd_over 113 = .ok (.invokevirtual 112, 3) := by decide +kernel
theorem dMd_over_116 : decode cMd_over 116 = .ok (.lstore 5, 2) := by decide +kernel
theorem dMd_over_118 : decode cMd_over 118 = .ok (.aload_n 0, 1) := by decide +kernel
theorem dMd_over_119 : decode cMd_over 119 = .ok (.getfield 51, 3) := by decide +kernel
theorem dMd_over_122 : decode cMd_over 122 = .ok (.iload_n 2, 1) := by decide +kernel
theorem dMd_over_123 : decode cMd_over 123 = .ok (.aload_n 0, 1) := by decide +kernel
theorem dMd_over_124 : decode cMd_over 124 = .ok (.aload_n 0, 1) := by decide +kernel
theorem dMd_over_125 : decode cMd_over 125 = .ok (.getfield 51, 3) := by decide +kernel
theorem dMd_over_128 : decode cMd_over 128 = .ok (.iload_n 2, 1) := by decide +kernel
theorem dMd_over_129 : decode cMd_over 129 = .ok (.bipush 16, 2) := by decide +kernel
theorem dMd_over_131 : decode cMd_over 131 = .ok (.isub, 1) := by decide +kernel
theorem dMd_over_132 : decode cMd_over 132 = .ok (.laload, 1) := by decide +kernel
theorem dMd_over_133 : decode cMd_over 133 = .ok (.lload_n 3, 1) := by decide +kernel
theorem dMd_over_134 : decode cMd_over 134 = .ok (.ladd, 1) := by decide +kernel
theorem dMd_over_135 : decode cMd_over 135 = .ok (.aload_n 0, 1) := by decide +kernel
theorem dMd_over_136 : decode cMd_over 136 = .ok (.getfield 51, 3) := by decide +kernel
theorem dMd_over_139 : decode cMd_over 139 = .ok (.iload_n 2, 1) := by decide +kernel
theorem dMd_over_140 : decode cMd_over 140 = .ok (.bipush 7, 2) := by decide +kernel
theorem dMd_over_142 : decode cMd_over 142 = .ok (.isub, 1) := by decide +kernel
theorem dMd_over_143 : decode cMd_over 143 = .ok (.laload, 1) := by decide +kernel
theorem dMd_over_144 : decode cMd_over 144 = .ok (.ladd, 1) := by decide +kernel
theorem dMd_over_145 : decode cMd_over 145 = .ok (.lload 5, 2) := by decide +kernel
theorem dMd_over_147 : decode cMd_over 147 = .ok (.ladd, 1) := by decide +kernel
theorem dMd_over_148 : decode cMd_over 148 = .ok (.invokevirtual 116, 3) := by decide +kernel
theorem dMd_over_151 : decode cMd_over 151 = .ok (.lastore, 1) := by decide +kernel
theorem dMd_over_152 : decode cMd_over 152 = .ok (.iinc 2 1, 3) := by decide +kernel
theorem dMd_over_155 : decode cMd_over 155 = .ok (.goto (-137), 3) := by decide +kernel
theorem dMd_over_158 : decode cMd_over 158 = .ok (.aload_n 0, 1) := by decide +kernel
theorem dMd_over_159 : decode cMd_over 159 = .ok (.getfield 54, 3) := by decide +kernel
theorem dMd_over_162 : decode cMd_over 162 = .ok (.iconst 0, 1) := by decide +kernel
theorem dMd_over_163 : decode cMd_over 163 = .ok (.laload, 1) := by decide +kernel
theorem dMd_over_164 : decode cMd_over 164 = .ok (.lstore_n 2, 1) := by decide +kernel
theorem dMd_over_165 : decode cMd_over 165 = .ok (.aload_n 0, 1) := by decide +kernel
theorem dMd_over_166 : decode cMd_over 166 = .ok (.getfield 54, 3) := by decide +kernel
theorem dMd_over_169 : decode cMd_over 169 = .ok (.iconst 1, 1) := by decide +kernel
theorem dMd_over_170 : decode cMd_over 170 = .ok (.laload, 1) := by decide +kernel
theorem dMd_over_171 : decode cMd_over 171 = .ok (.lstore 4, 2) := by decide +kernel
theorem dMd_over_173 : decode cMd_over 173 = .ok (.aload_n 0, 1) := by decide +kernel
theorem dMd_over_174 : decode cMd_over 174 = .ok (.getfield 54, 3) := by decide +kernel
theorem dMd_over_177 : decode cMd_over 177 = .ok (.iconst 2, 1) := by decide +kernel
theorem dMd_over_178 : decode cMd_over 178 = .ok (.laload, 1) := by decide +kernel
theorem dMd_over_179 : decode cMd_over 179 = .ok (.lstore 6, 2) := by decide +kernel
theorem dMd_over_181 : decode cMd_over 181 = .ok (.aload_n 0, 1) := by decide +kernel
theorem dMd_over_182 : decode cMd_over 182 = .ok (.getfield 54, 3) := by decide +kernel
theorem dMd_over_185 : decode cMd_over 185 = .ok (.iconst 3, 1) := by decide +kernel
theorem dMd_over_186 : decode cMd_over 186 = .ok (.laload, 1) := by decide +kernel
theorem dMd_over_187 : decode cMd_over 187 = .ok (.lstore 8, 2) := by decide +kernel
theorem dMd_over_189 : decode cMd_over 189 = .ok (.aload_n 0, 1) := by decide +kernel
theorem dMd_over_190 : decode cMd_over 190 = .ok (.getfield 54, 3) := by decide +kernel
theorem dMd_over_193 : decode cMd_over 193 = .ok (.iconst 4, 1) := by decide +kernel
theorem dMd_over_194 : decode cMd_over 194 = .ok (.laload, 1) := by decide +kernel
theorem dMd_over_195 : decode cMd_over 195 = .ok (.lstore 10, 2) := by decide +kernel
theorem dMd_over_197 : decode cMd_over 197 = .ok (.aload_n 0, 1) := by decide +kernel
theorem dMd_over_198 : decode cMd_over 198 = .ok (.getfield 54, 3) := by decide +kernel
theorem dMd_over_201 : decode cMd_over 201 = .ok (.iconst 5, 1) := by decide +kernel
theorem dMd_over_202 : decode cMd_over 202 = .ok (.laload, 1) := by decide +kernel
theorem dMd_over_203 : decode cMd_over 203 = .ok (.lstore 12, 2) := by decide +kernel
theorem dMd_over_205 : decode cMd_over 205 = .ok (.aload_n 0, 1) := by decide +kernel
theorem dMd_over_206 : decode cMd_over 206 = .ok (.getfield 54, 3) := by decide +kernel
theorem dMd_over_209 : decode cMd_over 209 = .ok (.bipush 6, 2) := by decide +kernel
theorem dMd_over_211 : decode cMd_over 211 = .ok (.laload, 1) := by decide +kernel
theorem dMd_over_212 : decode cMd_over 212 = .ok (.lstore 14, 2) := by decide +kernel
theorem dMd_over_214 : decode cMd_over 214 = .ok (.aload_n 0, 1) := by decide +kernel
theorem dMd_over_215 : decode cMd_over 215 = .ok (.getfield 54, 3) := by decide +kernel
theorem dMd_over_218 : decode cMd_over 218 = .ok (.bipush 7, 2) := by decide +kernel
theorem dMd_over_220 : decode cMd_over 220 = .ok (.laload, 1) := by decide +kernel
theorem dMd_over_221 : decode cMd_over 221 = .ok (.lstore 16, 2) := by decide +kernel
theorem dMd_over_223 : decode cMd_over 223 = .ok (.iconst 0, 1) := by decide +kernel
theorem dMd_over_224 : decode cMd_over 224 = .ok (.istore 18, 2) := by decide +kernel
theorem dMd_over_226 : decode cMd_over 226 = .ok (.iload 18, 2) := by decide +kernel
theorem dMd_over_228 : decode cMd_over 228 = .ok (.iload_n 1, 1) := by decide +kernel
theorem dMd_over_229 : decode cMd_over 229 = .ok (.if_icmp .ge 201, 3) := by decide +kernel
theorem dMd_over_232 : decode cMd_over 232 = .ok (.aload_n 0, 1) := by decide +kernel
theorem dMd_over_233 : decode cMd_over 233 = .ok (.getfield 88, 3) := by decide +kernel
theorem dMd_over_236 : decode cMd_over 236 = .ok (.ifCond .eq 18, 3) := by decide +kernel
theorem dMd_over_239 : decode cMd_over 239 = .ok (.aload_n 0, 1) := by decide +kernel
theorem dMd_over_240 : decode cMd_over 240 = .ok (.lload 10, 2) := by decide +kernel
theorem dMd_over_242 : decode cMd_over 242 = .ok (.bipush 14, 2) := by decide +kernel
theorem dMd_over_244 : decode cMd_over 244 = .ok (.bipush 18, 2) := by decide +kernel
theorem dMd_over_246 : decode cMd_over 246 = .ok (.bipush 41, 2) := by decide +kernel
theorem dMd_over_248 : decode cMd_over 248 = .ok (.invokevirtual 120, 3) := by decide +kernel
theorem dMd_over_251 : decode cMd_over 251 = .ok (.goto 15, 3) := by decide +kernel
theorem dMd_over_254 : decode cMd_over 254 = .ok (.aload_n 0, 1) := by decide +kernel
theorem dMd_over_255 : decode cMd_over 255 = .ok (.lload 10, 2) := by decide +kernel
theorem dMd_over_257 : decode cMd_over 257 = .ok (.bipush 6, 2) := by decide +kernel
theorem dMd_over_259 : decode cMd_over 259 = .ok (.bipush 11, 2) := by decide +kernel
theorem dMd_over_261 : decode cMd_over 261 = .ok (.bipush 25, 2) := by decide +kernel
theorem dMd_over_263 : decode cMd_over 263 = .ok (.invokevirtual 120, 3) := by decide +kernel
theorem dMd_over_266 : decode cMd_over 266 = .ok (.lstore 19, 2) := by decide +kernel
theorem dMd_over_268 : decode cMd_over 268 = .ok (.aload_n 0, 1) := by decide +kernel
theorem dMd_over_269 : decode cMd_over 269 = .ok (.getfield 88, 3) := by decide +kernel
theorem dMd_over_272 : decode cMd_over 272 = .ok (.ifCond .eq 17, 3) := by decide +kernel
theorem dMd_over_275 : decode cMd_over 275 = .ok (.aload_n 0, 1) := by decide +kernel
theorem dMd_over_276 : decode cMd_over 276 = .ok (.lload_n 2, 1) := by decide +kernel
theorem dMd_over_277 : decode cMd_over 277 = .ok (.bipush 28, 2) := by decide +kernel
theorem dMd_over_279 : decode cMd_over 279 = .ok (.bipush 34, 2) := by decide +kernel
theorem dMd_over_281 : decode cMd_over 281 = .ok (.bipush 39, 2) := by decide +kernel
theorem dMd_over_283 : decode cMd_over 283 = .ok (.invokevirtual 120, 3) := by decide +kernel
theorem dMd_over_286 : decode cMd_over 286 = .ok (.goto 13, 3) := by decide +kernel
theorem dMd_over_289 : decode cMd_over 289 = .ok (.aload_n 0, 1) := by decide +kernel
theorem dMd_over_290 : decode cMd_over 290 = .ok (.lload_n 2, 1) := by decide +kernel
theorem dMd_over_291 : decode cMd_over 291 = .ok (.iconst 2, 1) := by decide +kernel
theorem dMd_over_292 : decode cMd_over 292 = .ok (.bipush 13, 2) := by decide +kernel
theorem dMd_over_294 : decode cMd_over 294 = .ok (.bipush 22, 2) := by decide +kernel
theorem dMd_over_296 : decode cMd_over 296 = .ok (.invokevirtual 120, 3) := by decide +kernel
theorem dMd_over_299 : decode cMd_over 299 = .ok (.lstore 21, 2) := by decide +kernel
theorem dMd_over_301 : decode cMd_over 301 = .ok (.lload 16, 2) := by decide +kernel
theorem dMd_over_303 : decode cMd_over 303 = .ok (.lload 19, 2) := by decide +kernel
theorem dMd_over_305 : decode cMd_over 305 = .ok (.ladd, 1) := by decide +kernel
theorem dMd_over_306 : decode cMd_over 306 = .ok (.lload 10, 2) := by decide +kernel
theorem dMd_over_308 : decode cMd_over 308 = .ok (.lload 12, 2) := by decide +kernel
theorem dMd_over_310 : decode cMd_over 310 = .ok (.land, 1) := by decide +kernel
theorem dMd_over_311 : decode cMd_over 311 = .ok (.lload 10, 2) := by decide +kernel
theorem dMd_over_313 : decode cMd_over 313 = .ok (.ldc2_w 123, 3) := by decide +kernel
theorem dMd_over_316 : decode cMd_over 316 = .ok (.lxor, 1) := by decide +kernel
theorem dMd_over_317 : decode cMd_over 317 = .ok (.lload 14, 2) := by decide +kernel
theorem dMd_over_319 : decode cMd_over 319 = .ok (.land, 1) := by decide +kernel
theorem dMd_over_320 : decode cMd_over 320 = .ok (.lxor, 1) := by decide +kernel
theorem dMd_over_321 : decode cMd_over 321 = .ok (.ladd, 1) := by decide +kernel
theorem dMd_over_322 : decode cMd_over 322 = .ok (.aload_n 0, 1) := by decide +kernel
theorem dMd_over_323 : decode cMd_over 323 = .ok (.getfield 88, 3) := by decide +kernel
theorem dMd_over_326 : decode cMd_over 326 = .ok (.ifCond .eq 13, 3) := by decide +kernel
theorem dMd_over_329 : decode cMd_over 329 = .ok (.aload_n 0, 1) := by decide +kernel
theorem dMd_over_330 : decode cMd_over 330 = .ok (.getfield 44, 3) := by decide +kernel
theorem dMd_over_333 : decode cMd_over 333 = .ok (.iload 18, 2) := by decide +kernel
theorem dMd_over_335 : decode cMd_over 335 = .ok (.laload, 1) := by decide +kernel
theorem dMd_over_336 : decode cMd_over 336 = .ok (.goto 13, 3) := by decide +kernel
theorem dMd_over_339 : decode cMd_over 339 = .ok (.aload_n 0, 1) := by decide +kernel
theorem dMd_over_340 : decode cMd_over 340 = .ok (.getfield 44, 3) := by decide +kernel
theorem dMd_over_343 : decode cMd_over 343 = .ok (.iload 18, 2) := by decide +kernel
theorem dMd_over_345 : decode cMd_over 345 = .ok (.laload, 1) := by decide +kernel
theorem dMd_over_346 : decode cMd_over 346 = .ok (.bipush 32, 2) := by decide +kernel
theorem dMd_over_348 : decode cMd_over 348 = .ok (.lushr, 1) := by decide +kernel
theorem dMd_over_349 : decode cMd_over 349 = .ok (.ladd, 1) := by decide +kernel
theorem dMd_over_350 : decode cMd_over 350 = .ok (.aload_n 0, 1) := by decide +kernel
theorem dMd_over_351 : decode cMd_over 351 = .ok (.getfield 51, 3) := by decide +kernel
theorem dMd_over_354 : decode cMd_over 354 = .ok (.iload 18, 2) := by decide +kernel
theorem dMd_over_356 : decode cMd_over 356 = .ok (.laload, 1) := by decide +kernel
theorem dMd_over_357 : decode cMd_over 357 = .ok (.ladd, 1) := by decide +kernel
theorem dMd_over_358 : decode cMd_over 358 = .ok (.lstore 23, 2) := by decide +kernel
theorem dMd_over_360 : decode cMd_over 360 = .ok (.lload 21, 2) := by decide +kernel
theorem dMd_over_362 : decode cMd_over 362 = .ok (.lload_n 2, 1) := by decide +kernel
theorem dMd_over_363 : decode cMd_over 363 = .ok (.lload 4, 2) := by decide +kernel
theorem dMd_over_365 : decode cMd_over 365 = .ok (.land, 1) := by decide +kernel
theorem dMd_over_366 : decode cMd_over 366 = .ok (.lload_n 2, 1) := by decide +kernel
theorem dMd_over_367 : decode cMd_over 367 = .ok (.lload 6, 2) := by decide +kernel
theorem dMd_over_369 : decode cMd_over 369 = .ok (.land, 1) := by decide +kernel
theorem dMd_over_370 : decode cMd_over 370 = .ok (.lxor, 1) := by decide +kernel
theorem dMd_over_371 : decode cMd_over 371 = .ok (.lload 4, 2) := by decide +kernel
theorem dMd_over_373 : decode cMd_over 373 = .ok (.lload 6, 2) := by decide +kernel
theorem dMd_over_375 : decode cMd_over 375 = .ok (.land, 1) := by decide +kernel
theorem dMd_over_376 : decode cMd_over 376 = .ok (.lxor, 1) := by decide +kernel
theorem dMd_over_377 : decode cMd_over 377 = .ok (.ladd, 1) := by decide +kernel
theorem dMd_over_378 : decode cMd_over 378 = .ok (.lstore 25, 2) := by decide +kernel
theorem dMd_over_380 : decode cMd_over 380 = .ok (.lload 14, 2) := by decide +kernel
theorem dMd_over_382 : decode cMd_over 382 = .ok (.lstore 16, 2) := by decide +kernel
theorem dMd_over_384 : decode cMd_over 384 = .ok (.lload 12, 2) := by decide +kernel
theorem dMd_over_386 : decode cMd_over 386 = .ok (.lstore 14, 2) := by decide +kernel
theorem dMd_over_388 : decode cMd_over 388 = .ok (.lload 10, 2) := by decide +kernel
theorem dMd_over_390 : decode cMd_over 390 = .ok (.lstore 12, 2) := by decide +kernel
theorem dMd_over_392 : decode cMd_over 392 = .ok (.aload_n 0, 1) := by decide +kernel
theorem dMd_over_393 : decode cMd_over 393 = .ok (.lload 8, 2) := by decide +kernel
theorem dMd_over_395 : decode cMd_over 395 = .ok (.lload 23, 2) := by decide +kernel
theorem dMd_over_397 : decode cMd_over 397 = .ok (.ladd, 1) := by decide +kernel
theorem dMd_over_398 : decode cMd_over 398 = .ok (.invokevirtual 116, 3) := by decide +kernel
theorem dMd_over_401 : decode cMd_over 401 = .ok (.lstore 10, 2) := by decide +kernel
theorem dMd_over_403 : decode cMd_over 403 = .ok (.lload 6, 2) := by decide +kernel
theorem dMd_over_405 : decode cMd_over 405 = .ok (.lstore 8, 2) := by decide +kernel
theorem dMd_over_407 : decode cMd_over 407 = .ok (.lload 4, 2) := by decide +kernel
theorem dMd_over_409 : decode cMd_over 409 = .ok (.lstore 6, 2) := by decide +kernel
theorem dMd_over_411 : decode cMd_over 411 = .ok (.lload_n 2, 1) := by decide +kernel
theorem dMd_over_412 : decode cMd_over 412 = .ok (.lstore 4, 2) := by decide +kernel
theorem dMd_over_414 : decode cMd_over 414 = .ok (.aload_n 0, 1) := by decide +kernel
theorem dMd_over_415 : decode cMd_over 415 = .ok (.lload 23, 2) := by decide +kernel
theorem dMd_over_417 : decode cMd_over 417 = .ok (.lload 25, 2) := by decide +kernel
theorem dMd_over_419 : decode cMd_over 419 = .ok (.ladd, 1) := by decide +kernel
theorem dMd_over_420 : decode cMd_over 420 = .ok (.invokevirtual 116, 3) := by decide +kernel
theorem dMd_over_423 : decode cMd_over 423 = .ok (.lstore_n 2, 1) := by decide +kernel
theorem dMd_over_424 : decode cMd_over 424 = .ok (.iinc 18 1, 3) := by decide +kernel
theorem dMd_over_427 : decode cMd_over 427 = .ok (.goto (-201), 3) := by decide +kernel
theorem dMd_over_430 : decode cMd_over 430 = .ok (.aload_n 0, 1) := by decide +kernel
theorem dMd_over_431 : decode cMd_over 431 = .ok (.getfield 54, 3) := by decide +kernel
theorem dMd_over_434 : decode cMd_over 434 = .ok (.iconst 0, 1) := by decide +kernel
theorem dMd_over_435 : decode cMd_over 435 = .ok (.aload_n 0, 1) := by decide +kernel
theorem dMd_over_436 : decode cMd_over 436 = .ok (.aload_n 0, 1) := by decide +kernel
theorem dMd_over_437 : decode cMd_over 437 = .ok (.getfield 54, 3) := by decide +kernel
theorem dMd_over_440 : decode cMd_over 440 = .ok (.iconst 0, 1) := by decide +kernel
theorem dMd_over_441 : decode cMd_over 441 = .ok (.laload, 1) := by decide +kernel
theorem dMd_over_442 : decode cMd_over 442 = .ok (.lload_n 2, 1) := by decide +kernel
theorem dMd_over_443 : decode cMd_over 443 = .ok (.ladd, 1) := by decide +kernel
theorem dMd_over_444 : decode cMd_over 444 = .ok (.invokevirtual 116, 3) := by decide +kernel
theorem dMd_over_447 : decode cMd_over 447 = .ok (.lastore, 1) := by decide +kernel
theorem dMd_over_448 : decode cMd_over 448 = .ok (.aload_n 0, 1) := by decide +kernel
theorem dMd_over_449 : decode cMd_over 449 = .ok (.getfield 54, 3) := by decide +kernel
theorem dMd_over_452 : decode cMd_over 452 = .ok (.iconst 1, 1) := by decide +kernel
theorem dMd_over_453 : decode cMd_over 453 = .ok (.aload_n 0, 1) := by decide +kernel
theorem dMd_over_454 : decode cMd_over 454 = .ok (.aload_n 0, 1) := by decide +kernel
theorem dMd_over_455 : decode cMd_over 455 = .ok (.getfield 54, 3) := by decide +kernel
theorem dMd_over_458 : decode cMd_over 458 = .ok (.iconst 1, 1) := by decide +kernel
theorem dMd_over_459 : decode cMd_over 459 = .ok (.laload, 1) := by decide +kernel
theorem dMd_over_460 : decode cMd_over 460 = .ok (.lload 4, 2) := by decide +kernel
theorem dMd_over_462 : decode cMd_over 462 = .ok (.ladd, 1) := by decide +kernel
theorem dMd_over_463 : decode cMd_over 463 = .ok (.invokevirtual 116, 3) := by decide +kernel
theorem dMd_over_466 : decode cMd_over 466 = .ok (.lastore, 1) := by decide +kernel
theorem dMd_over_467 : decode cMd_over 467 = .ok (.aload_n 0, 1) := by decide +kernel
theorem dMd_over_468 : decode cMd_over 468 = .ok (.getfield 54, 3) := by decide +kernel
theorem dMd_over_471 : decode cMd_over 471 = .ok (.iconst 2, 1) := by decide +kernel
theorem dMd_over_472 : decode cMd_over 472 = .ok (.aload_n 0, 1) := by decide +kernel
theorem dMd_over_473 : decode cMd_over 473 = .ok (.aload_n 0, 1) := by decide +kernel
theorem dMd_over_474 : decode cMd_over 474 = .ok (.getfield 54, 3) := by decide +kernel
theorem dMd_over_477 : decode cMd_over 477 = .ok (.iconst 2, 1) := by decide +kernel
theorem dMd_over_478 : decode cMd_over 478 = .ok (.laload, 1) := by decide +kernel
theorem dMd_over_479 : decode cMd_over 479 = .ok (.lload 6, 2) := by decide +kernel
theorem dMd_over_481 : decode cMd_over 481 = .ok (.ladd, 1) := by decide +kernel
theorem dMd_over_482 : decode cMd_over 482 = .ok (.invokevirtual 116, 3) := by decide +kernel
theorem dMd_over_485 : decode cMd_over 485 = .ok (.lastore, 1) := by decide +kernel
theorem dMd_over_486 : decode cMd_over 486 = .ok (.aload_n 0, 1) := by decide +kernel
theorem dMd_over_487 : decode cMd_over 487 = .ok (.getfield 54, 3) := by decide +kernel
theorem dMd_over_490 : decode cMd_over 490 = .ok (.iconst 3, 1) := by decide +kernel
theorem dMd_over_491 : decode cMd_over 491 = .ok (.aload_n 0, 1) := by decide +kernel
theorem dMd_over_492 : decode cMd_over 492 = .ok (.aload_n 0, 1) := by decide +kernel
theorem dMd_over_493 : decode cMd_over 493 = .ok (.getfield 54, 3) := by decide +kernel
theorem dMd_over_496 : decode cMd_over 496 = .ok (.iconst 3, 1) := by decide +kernel
theorem dMd_over_497 : decode cMd_over 497 = .ok (.laload, 1) := by decide +kernel
theorem dMd_over_498 : decode cMd_over 498 = .ok (.lload 8, 2) := by decide +kernel
theorem dMd_over_500 : decode cMd_over 500 = .ok (.ladd, 1) := by decide +kernel
theorem dMd_over_501 : decode cMd_over 501 = .ok (.invokevirtual 116, 3) := by decide +kernel
theorem dMd_over_504 : decode cMd_over 504 = .ok (.lastore, 1) := by decide +kernel
theorem dMd_over_505 : decode cMd_over 505 = .ok (.aload_n 0, 1) := by decide +kernel
theorem dMd_over_506 : decode cMd_over 506 = .ok (.getfield 54, 3) := by decide +kernel
theorem dMd_over_509 : decode cMd_over 509 = .ok (.iconst 4, 1) := by decide +kernel
theorem dMd_over_510 : decode cMd_over 510 = .ok (.aload_n 0, 1) := by decide +kernel
theorem dMd_over_511 : decode cMd_over 511 = .ok (.aload_n 0, 1) := by decide +kernel
theorem dMd_over_512 : decode cMd_over 512 = .ok (.getfield 54, 3) := by decide +kernel
theorem dMd_over_515 : decode cMd_over 515 = .ok (.iconst 4, 1) := by decide +kernel
theorem dMd_over_516 : decode cMd_over 516 = .ok (.laload, 1) := by decide +kernel
theorem dMd_over_517 : decode cMd_over 517 = .ok (.lload 10, 2) := by decide +kernel
theorem dMd_over_519 : decode cMd_over 519 = .ok (.ladd, 1) := by decide +kernel
theorem dMd_over_520 : decode cMd_over 520 = .ok (.invokevirtual 116, 3) := by decide +kernel
theorem dMd_over_523 : decode cMd_over 523 = .ok (.lastore, 1) := by decide +kernel
theorem dMd_over_524 : decode cMd_over 524 = .ok (.aload_n 0, 1) := by decide +kernel
theorem dMd_over_525 : decode cMd_over 525 = .ok (.getfield 54, 3) := by decide +kernel
theorem dMd_over_528 : decode cMd_over 528 = .ok (.iconst 5, 1) := by decide +kernel
theorem dMd_over_529 : decode cMd_over 529 = .ok (.aload_n 0, 1) := by decide +kernel
theorem dMd_over_530 : decode cMd_over 530 = .ok (.aload_n 0, 1) := by decide +kernel
theorem dMd_over_531 : decode cMd_over 531 = .ok (.getfield 54, 3) := by decide +kernel
theorem dMd_over_534 : decode cMd_over 534 = .ok (.iconst 5, 1) := by decide +kernel
theorem dMd_over_535 : decode cMd_over 535 = .ok (.laload, 1) := by decide +kernel
theorem dMd_over_536 : decode cMd_over 536 = .ok (.lload 12, 2) := by decide +kernel
theorem dMd_over_538 : decode cMd_over 538 = .ok (.ladd, 1) := by decide +kernel
theorem dMd_over_539 : decode cMd_over 539 = .ok (.invokevirtual 116, 3) := by decide +kernel
theorem dMd_over_542 : decode cMd_over 542 = .ok (.lastore, 1) := by decide +kernel
theorem dMd_over_543 : decode cMd_over 543 = .ok (.aload_n 0, 1) := by decide +kernel
theorem dMd_over_544 : decode cMd_over 544 = .ok (.getfield 54, 3) := by decide +kernel
theorem dMd_over_547 : decode cMd_over 547 = .ok (.bipush 6, 2) := by decide +kernel
theorem dMd_over_549 : decode cMd_over 549 = .ok (.aload_n 0, 1) := by decide +kernel
theorem dMd_over_550 : decode cMd_over 550 = .ok (.aload_n 0, 1) := by decide +kernel
theorem dMd_over_551 : decode cMd_over 551 = .ok (.getfield 54, 3) := by decide +kernel
theorem dMd_over_554 : decode cMd_over 554 = .ok (.bipush 6, 2) := by decide +kernel
theorem dMd_over_556 : decode cMd_over 556 = .ok (.laload, 1) := by decide +kernel
theorem dMd_over_557 : decode cMd_over 557 = .ok (.lload 14, 2) := by decide +kernel
theorem dMd_over_559 : decode cMd_over 559 = .ok (.ladd, 1) := by decide +kernel
theorem dMd_over_560 : decode cMd_over 560 = .ok (.invokevirtual 116, 3) := by decide +kernel
theorem dMd_over_563 : decode cMd_over 563 = .ok (.lastore, 1) := by decide +kernel
theorem dMd_over_564 : decode cMd_over 564 = .ok (.aload_n 0, 1) := by decide +kernel
theorem dMd_over_565 : decode cMd_over 565 = .ok (.getfield 54, 3) := by decide +kernel
theorem dMd_over_568 : decode cMd_over 568 = .ok (.bipush 7, 2) := by decide +kernel
theorem dMd_over_570 : decode cMd_over 570 = .ok (.aload_n 0, 1) := by decide +kernel
theorem dMd_over_571 : decode cMd_over 571 = .ok (.aload_n 0, 1) := by decide +kernel
theorem dMd_over_572 : decode cMd_over 572 = .ok (.getfield 54, 3) := by decide +kernel
theorem dMd_over_575 : decode cMd_over 575 = .ok (.bipush 7, 2) := by decide +kernel
theorem dMd_over_577 : decode cMd_over 577 = .ok (.laload, 1) := by decide +kernel
theorem dMd_over_578 : decode cMd_over 578 = .ok (.lload 16, 2) := by decide +kernel
theorem dMd_over_580 : decode cMd_over 580 = .ok (.ladd, 1) := by decide +kernel
theorem dMd_over_581 : decode cMd_over 581 = .ok (.invokevirtual 116, 3) := by decide +kernel
theorem dMd_over_584 : decode cMd_over 584 = .ok (.lastore, 1) := by decide +kernel
theorem dMd_over_585 : decode cMd_over 585 = .ok (.return_, 1) := by decide +kernel
theorem dMd_padded_0 : decode cMd_padded 0 = .ok (.iload_n 3, 1) := by decide +kernel
theorem dMd_padded_1 : decode cMd_padded 1 = .ok (.iload_n 2, 1) := by decide +kernel
theorem dMd_padded_2 : decode cMd_padded 2 = .ok (.if_icmp .ge 13, 3) := by decide +kernel
theorem dMd_padded_5 : decode cMd_padded 5 = .ok (.aload_n 0, 1) := by decide +kernel
theorem dMd_padded_6 : decode cMd_padded 6 = .ok (.iload_n 1, 1) := by decide +kernel
theorem dMd_padded_7 : decode cMd_padded 7 = .ok (.iload_n 3, 1) := by decide +kernel
theorem dMd_padded_8 : decode cMd_padded 8 = .ok (.iadd, 1) := by decide +kernel
theorem dMd_padded_9 : decode cMd_padded 9 = .ok (.baload, 1) := by decide +kernel
theorem dMd_padded_10 : decode cMd_padded 10 = .ok (.sipush 255, 3) := by decide +kernel
theorem dMd_padded_13 : decode cMd_padded 13 = .ok (.iand, 1) := by decide +kernel
theorem dMd_padded_14 : decode cMd_padded 14 = .ok (.ireturn, 1) := by decide +kernel
theorem dMd_padded_15 : decode cMd_padded 15 = .ok (.iload_n 3, 1) := by decide +kernel
theorem dMd_padded_16 : decode cMd_padded 16 = .ok (.iload_n 2, 1) := by decide +kernel
theorem dMd_padded_17 : decode cMd_padded 17 = .ok (.if_icmp .ne 7, 3) := by decide +kernel
theorem dMd_padded_20 : decode cMd_padded 20 = .ok (.sipush 128, 3) := by decide +kernel
theorem dMd_padded_23 : decode cMd_padded 23 = .ok (.ireturn, 1) := by decide +kernel
theorem dMd_padded_24 : decode cMd_padded 24 = .ok (.iload_n 3, 1) := by decide +kernel
theorem dMd_padded_25 : decode cMd_padded 25 = .ok (.iload 4, 2) := by decide +kernel
theorem dMd_padded_27 : decode cMd_padded 27 = .ok (.bipush 8, 2) := by decide +kernel
theorem dMd_padded_29 : decode cMd_padded 29 = .ok (.isub, 1) := by decide +kernel
theorem dMd_padded_30 : decode cMd_padded 30 = .ok (.if_icmp .ge 7, 3) := by decide +kernel
theorem dMd_padded_33 : decode cMd_padded 33 = .ok (.iconst 0, 1) := by decide +kernel
theorem dMd_padded_34 : decode cMd_padded 34 = .ok (.goto 24, 3) := by decide +kernel
theorem dMd_padded_37 : decode cMd_padded 37 = .ok (.ldc2_w 96, 3) := by decide +kernel
theorem dMd_padded_40 : decode cMd_padded 40 = .ok (.iload_n 2, 1) := by decide +kernel
theorem dMd_padded_41 : decode cMd_padded 41 = .ok (.i2l, 1) := by decide +kernel
theorem dMd_padded_42 : decode cMd_padded 42 = .ok (.lmul, 1) := by decide +kernel
theorem dMd_padded_43 : decode cMd_padded 43 = .ok (.bipush 8, 2) := by decide +kernel
theorem dMd_padded_45 : decode cMd_padded 45 = .ok (.iload 4, 2) := by decide +kernel
theorem dMd_padded_47 : decode cMd_padded 47 = .ok (.iconst 1, 1) := by decide +kernel
theorem dMd_padded_48 : decode cMd_padded 48 = .ok (.isub, 1) := by decide +kernel
theorem dMd_padded_49 : decode cMd_padded 49 = .ok (.iload_n 3, 1) := by decide +kernel
theorem dMd_padded_50 : decode cMd_padded 50 = .ok (.isub, 1) := by decide +kernel
theorem dMd_padded_51 : decode cMd_padded 51 = .ok (.imul, 1) := by decide +kernel
theorem dMd_padded_52 : decode cMd_padded 52 = .ok (.lushr, 1) := by decide +kernel
theorem dMd_padded_53 : decode cMd_padded 53 = .ok (.l2i, 1) := by decide +kernel
theorem dMd_padded_54 : decode cMd_padded 54 = .ok (.sipush 255, 3) := by decide +kernel
theorem dMd_padded_57 : decode cMd_padded 57 = .ok (.iand, 1) := by decide +kernel
theorem dMd_padded_58 : decode cMd_padded 58 = .ok (.ireturn, 1) := by decide +kernel
theorem dMd_peek_0 : decode cMd_peek 0 = .ok (.aload_n 0, 1) := by decide +kernel
theorem dMd_peek_1 : decode cMd_peek 1 = .ok (.iconst 0, 1) := by decide +kernel
theorem dMd_peek_2 : decode cMd_peek 2 = .ok (.putfield 71, 3) := by decide +kernel
theorem dMd_peek_5 : decode cMd_peek 5 = .ok (.iload_n 1, 1) := by decide +kernel
theorem dMd_peek_6 : decode cMd_peek 6 = .ok (.invokestatic 139, 3) := by decide +kernel
theorem dMd_peek_9 : decode cMd_peek 9 = .ok (.ifCond .eq 9, 3) := by decide +kernel
theorem dMd_peek_12 : decode cMd_peek 12 = .ok (.aload_n 0, 1) := by decide +kernel
theorem dMd_peek_13 : decode cMd_peek 13 = .ok (.iconst 1, 1) := by decide +kernel
theorem dMd_peek_14 : decode cMd_peek 14 = .ok (.invokevirtual 136, 3) := by decide +kernel
theorem dMd_peek_17 : decode cMd_peek 17 = .ok (.ireturn, 1) := by decide +kernel
theorem dMd_peek_18 : decode cMd_peek 18 = .ok (.aload_n 0, 1) := by decide +kernel
theorem dMd_peek_19 : decode cMd_peek 19 = .ok (.iload_n 1, 1) := by decide +kernel
theorem dMd_peek_20 : decode cMd_peek 20 = .ok (.aload_n 0, 1) := by decide +kernel
theorem dMd_peek_21 : decode cMd_peek 21 = .ok (.getfield 21, 3) := by decide +kernel
theorem dMd_peek_24 : decode cMd_peek 24 = .ok (.ldc 143, 2) := by decide +kernel
theorem dMd_peek_26 : decode cMd_peek 26 = .ok (.iload_n 1, 1) := by decide +kernel
theorem dMd_peek_27 : decode cMd_peek 27 = .ok (.imul, 1) := by decide +kernel
theorem dMd_peek_28 : decode cMd_peek 28 = .ok (.aload_n 0, 1) := by decide +kernel
theorem dMd_peek_29 : decode cMd_peek 29 = .ok (.getfield 24, 3) := by decide +kernel
theorem dMd_peek_32 : decode cMd_peek 32 = .ok (.iload_n 1, 1) := by decide +kernel
theorem dMd_peek_33 : decode cMd_peek 33 = .ok (.iaload, 1) := by decide +kernel
theorem dMd_peek_34 : decode cMd_peek 34 = .ok (.invokevirtual 128, 3) := by decide +kernel
theorem dMd_peek_37 : decode cMd_peek 37 = .ok (.aload_n 0, 1) := by decide +kernel
theorem dMd_peek_38 : decode cMd_peek 38 = .ok (.getfield 28, 3) := by decide +kernel
theorem dMd_peek_41 : decode cMd_peek 41 = .ok (.iload_n 1, 1) := by decide +kernel
theorem dMd_peek_42 : decode cMd_peek 42 = .ok (.dup2, 1) := by decide +kernel
theorem dMd_peek_43 : decode cMd_peek 43 = .ok (.iaload, 1) := by decide +kernel
theorem dMd_peek_44 : decode cMd_peek 44 = .ok (.iload_n 1, 1) := by decide +kernel
theorem dMd_peek_45 : decode cMd_peek 45 = .ok (.aload_n 0, 1) := by decide +kernel
theorem dMd_peek_46 : decode cMd_peek 46 = .ok (.getfield 24, 3) := by decide +kernel
theorem dMd_peek_49 : decode cMd_peek 49 = .ok (.iload_n 1, 1) := by decide +kernel
theorem dMd_peek_50 : decode cMd_peek 50 = .ok (.iaload, 1) := by decide +kernel
theorem dMd_peek_51 : decode cMd_peek 51 = .ok (.invokestatic 98, 3) := by decide +kernel
theorem dMd_peek_54 : decode cMd_peek 54 = .ok (.aload_n 0, 1) := by decide +kernel
theorem dMd_peek_55 : decode cMd_peek 55 = .ok (.getfield 24, 3) := by decide +kernel
theorem dMd_peek_58 : decode cMd_peek 58 = .ok (.iload_n 1, 1) := by decide +kernel
theorem dMd_peek_59 : decode cMd_peek 59 = .ok (.iaload, 1) := by decide +kernel
theorem dMd_peek_60 : decode cMd_peek 60 = .ok (.iload_n 1, 1) := by decide +kernel
theorem dMd_peek_61 : decode cMd_peek 61 = .ok (.invokestatic 85, 3) := by decide +kernel
theorem dMd_peek_64 : decode cMd_peek 64 = .ok (.idiv, 1) := by decide +kernel
theorem dMd_peek_65 : decode cMd_peek 65 = .ok (.isub, 1) := by decide +kernel
theorem dMd_peek_66 : decode cMd_peek 66 = .ok (.iadd, 1) := by decide +kernel
theorem dMd_peek_67 : decode cMd_peek 67 = .ok (.iastore, 1) := by decide +kernel
theorem dMd_peek_68 : decode cMd_peek 68 = .ok (.aload_n 0, 1) := by decide +kernel
theorem dMd_peek_69 : decode cMd_peek 69 = .ok (.iload_n 1, 1) := by decide +kernel
theorem dMd_peek_70 : decode cMd_peek 70 = .ok (.invokestatic 109, 3) := by decide +kernel
theorem dMd_peek_73 : decode cMd_peek 73 = .ok (.putfield 144, 3) := by decide +kernel
theorem dMd_peek_76 : decode cMd_peek 76 = .ok (.iconst 0, 1) := by decide +kernel
theorem dMd_peek_77 : decode cMd_peek 77 = .ok (.istore_n 2, 1) := by decide +kernel
theorem dMd_peek_78 : decode cMd_peek 78 = .ok (.iload_n 2, 1) := by decide +kernel
theorem dMd_peek_79 : decode cMd_peek 79 = .ok (.aload_n 0, 1) := by decide +kernel
theorem dMd_peek_80 : decode cMd_peek 80 = .ok (.getfield 144, 3) := by decide +kernel
theorem dMd_peek_83 : decode cMd_peek 83 = .ok (.if_icmp .ge 21, 3) := by decide +kernel
theorem dMd_peek_86 : decode cMd_peek 86 = .ok (.aload_n 0, 1) := by decide +kernel
theorem dMd_peek_87 : decode cMd_peek 87 = .ok (.getfield 17, 3) := by decide +kernel
theorem dMd_peek_90 : decode cMd_peek 90 = .ok (.iload_n 2, 1) := by decide +kernel
theorem dMd_peek_91 : decode cMd_peek 91 = .ok (.aload_n 0, 1) := by decide +kernel
theorem dMd_peek_92 : decode cMd_peek 92 = .ok (.getfield 35, 3) := by decide +kernel
theorem dMd_peek_95 : decode cMd_peek 95 = .ok (.iload_n 2, 1) := by decide +kernel
theorem dMd_peek_96 : decode cMd_peek 96 = .ok (.baload, 1) := by decide +kernel
theorem dMd_peek_97 : decode cMd_peek 97 = .ok (.bastore, 1) := by decide +kernel
theorem dMd_peek_98 : decode cMd_peek 98 = .ok (.iinc 2 1, 3) := by decide +kernel
theorem dMd_peek_101 : decode cMd_peek 101 = .ok (.goto (-23), 3) := by decide +kernel
theorem dMd_peek_104 : decode cMd_peek 104 = .ok (.aload_n 0, 1) := by decide +kernel
theorem dMd_peek_105 : decode cMd_peek 105 = .ok (.getfield 144, 3) := by decide +kernel
theorem dMd_peek_108 : decode cMd_peek 108 = .ok (.ireturn, 1) := by decide +kernel
theorem dMd_prepare_0 : decode cMd_prepare 0 = .ok (.iload_n 1, 1) := by decide +kernel
theorem dMd_prepare_1 : decode cMd_prepare 1 = .ok (.invokestatic 85, 3) := by decide +kernel
theorem dMd_prepare_4 : decode cMd_prepare 4 = .ok (.istore_n 2, 1) := by decide +kernel
theorem dMd_prepare_5 : decode cMd_prepare 5 = .ok (.iconst 0, 1) := by decide +kernel
theorem dMd_prepare_6 : decode cMd_prepare 6 = .ok (.istore_n 3, 1) := by decide +kernel
theorem dMd_prepare_7 : decode cMd_prepare 7 = .ok (.iload_n 3, 1) := by decide +kernel
theorem dMd_prepare_8 : decode cMd_prepare 8 = .ok (.iload_n 2, 1) := by decide +kernel
theorem dMd_prepare_9 : decode cMd_prepare 9 = .ok (.if_icmp .ge 16, 3) := by decide +kernel
theorem dMd_prepare_12 : decode cMd_prepare 12 = .ok (.aload_n 0, 1) := by decide +kernel
theorem dMd_prepare_13 : decode cMd_prepare 13 = .ok (.getfield 41, 3) := by decide +kernel
theorem dMd_prepare_16 : decode cMd_prepare 16 = .ok (.iload_n 3, 1) := by decide +kernel
theorem dMd_prepare_17 : decode cMd_prepare 17 = .ok (.iconst 0, 1) := by decide +kernel
theorem dMd_prepare_18 : decode cMd_prepare 18 = .ok (.bastore, 1) := by decide +kernel
theorem dMd_prepare_19 : decode cMd_prepare 19 = .ok (.iinc 3 1, 3) := by decide +kernel
theorem dMd_prepare_22 : decode cMd_prepare 22 = .ok (.goto (-15), 3) := by decide +kernel
theorem dMd_prepare_25 : decode cMd_prepare 25 = .ok (.aload_n 0, 1) := by decide +kernel
theorem dMd_prepare_26 : decode cMd_prepare 26 = .ok (.getfield 125, 3) := by decide +kernel
theorem dMd_prepare_29 : decode cMd_prepare 29 = .ok (.iload_n 2, 1) := by decide +kernel
theorem dMd_prepare_30 : decode cMd_prepare 30 = .ok (.if_icmp .le 48, 3) := by decide +kernel
theorem dMd_prepare_33 : decode cMd_prepare 33 = .ok (.aload_n 0, 1) := by decide +kernel
theorem dMd_prepare_34 : decode cMd_prepare 34 = .ok (.iload_n 1, 1) := by decide +kernel
theorem dMd_prepare_35 : decode cMd_prepare 35 = .ok (.aload_n 0, 1) := by decide +kernel
theorem dMd_prepare_36 : decode cMd_prepare 36 = .ok (.getfield 14, 3) := by decide +kernel
theorem dMd_prepare_39 : decode cMd_prepare 39 = .ok (.iconst 0, 1) := by decide +kernel
theorem dMd_prepare_40 : decode cMd_prepare 40 = .ok (.aload_n 0, 1) := by decide +kernel
theorem dMd_prepare_41 : decode cMd_prepare 41 = .ok (.getfield 125, 3) := by decide +kernel
theorem dMd_prepare_44 : decode cMd_prepare 44 = .ok (.invokevirtual 128, 3) := by decide +kernel
theorem dMd_prepare_47 : decode cMd_prepare 47 = .ok (.iconst 0, 1) := by decide +kernel
theorem dMd_prepare_48 : decode cMd_prepare 48 = .ok (.istore_n 3, 1) := by decide +kernel
theorem dMd_prepare_49 : decode cMd_prepare 49 = .ok (.iload_n 3, 1) := by decide +kernel
theorem dMd_prepare_50 : decode cMd_prepare 50 = .ok (.iload_n 1, 1) := by decide +kernel
theorem dMd_prepare_51 : decode cMd_prepare 51 = .ok (.invokestatic 109, 3) := by decide +kernel
theorem dMd_prepare_54 : decode cMd_prepare 54 = .ok (.if_icmp .ge 21, 3) := by decide +kernel
theorem dMd_prepare_57 : decode cMd_prepare 57 = .ok (.aload_n 0, 1) := by decide +kernel
theorem dMd_prepare_58 : decode cMd_prepare 58 = .ok (.getfield 41, 3) := by decide +kernel
theorem dMd_prepare_61 : decode cMd_prepare 61 = .ok (.iload_n 3, 1) := by decide +kernel
theorem dMd_prepare_62 : decode cMd_prepare 62 = .ok (.aload_n 0, 1) := by decide +kernel
theorem dMd_prepare_63 : decode cMd_prepare 63 = .ok (.getfield 35, 3) := by decide +kernel
theorem dMd_prepare_66 : decode cMd_prepare 66 = .ok (.iload_n 3, 1) := by decide +kernel
theorem dMd_prepare_67 : decode cMd_prepare 67 = .ok (.baload, 1) := by decide +kernel
theorem dMd_prepare_68 : decode cMd_prepare 68 = .ok (.bastore, 1) := by decide +kernel
theorem dMd_prepare_69 : decode cMd_prepare 69 = .ok (.iinc 3 1, 3) := by decide +kernel
theorem dMd_prepare_72 : decode cMd_prepare 72 = .ok (.goto (-23), 3) := by decide +kernel
theorem dMd_prepare_75 : decode cMd_prepare 75 = .ok (.goto 31, 3) := by decide +kernel
theorem dMd_prepare_78 : decode cMd_prepare 78 = .ok (.iconst 0, 1) := by decide +kernel
theorem dMd_prepare_79 : decode cMd_prepare 79 = .ok (.istore_n 3, 1) := by decide +kernel
theorem dMd_prepare_80 : decode cMd_prepare 80 = .ok (.iload_n 3, 1) := by decide +kernel
theorem dMd_prepare_81 : decode cMd_prepare 81 = .ok (.aload_n 0, 1) := by decide +kernel
theorem dMd_prepare_82 : decode cMd_prepare 82 = .ok (.getfield 125, 3) := by decide +kernel
theorem dMd_prepare_85 : decode cMd_prepare 85 = .ok (.if_icmp .ge 21, 3) := by decide +kernel
theorem dMd_prepare_88 : decode cMd_prepare 88 = .ok (.aload_n 0, 1) := by decide +kernel
theorem dMd_prepare_89 : decode cMd_prepare 89 = .ok (.getfield 41, 3) := by decide +kernel
theorem dMd_prepare_92 : decode cMd_prepare 92 = .ok (.iload_n 3, 1) := by decide +kernel
theorem dMd_prepare_93 : decode cMd_prepare 93 = .ok (.aload_n 0, 1) := by decide +kernel
theorem dMd_prepare_94 : decode cMd_prepare 94 = .ok (.getfield 14, 3) := by decide +kernel
theorem dMd_prepare_97 : decode cMd_prepare 97 = .ok (.iload_n 3, 1) := by decide +kernel
theorem dMd_prepare_98 : decode cMd_prepare 98 = .ok (.baload, 1) := by decide +kernel
theorem dMd_prepare_99 : decode cMd_prepare 99 = .ok (.bastore, 1) := by decide +kernel
theorem dMd_prepare_100 : decode cMd_prepare 100 = .ok (.iinc 3 1, 3) := by decide +kernel
theorem dMd_prepare_103 : decode cMd_prepare 103 = .ok (.goto (-23), 3) := by decide +kernel
theorem dMd_prepare_106 : decode cMd_prepare 106 = .ok (.return_, 1) := by decide +kernel
theorem dMd_prime_0 : decode cMd_prime 0 = .ok (.iload_n 0, 1) := by decide +kernel
theorem dMd_prime_1 : decode cMd_prime 1 = .ok (.istore_n 1, 1) := by decide +kernel
theorem dMd_prime_2 : decode cMd_prime 2 = .ok (.iconst 0, 1) := by decide +kernel
theorem dMd_prime_3 : decode cMd_prime 3 = .ok (.istore_n 2, 1) := by decide +kernel
theorem dMd_prime_4 : decode cMd_prime 4 = .ok (.iload_n 2, 1) := by decide +kernel
theorem dMd_prime_5 : decode cMd_prime 5 = .ok (.ifCond .ne 34, 3) := by decide +kernel
theorem dMd_prime_8 : decode cMd_prime 8 = .ok (.iinc 1 1, 3) := by decide +kernel
theorem dMd_prime_11 : decode cMd_prime 11 = .ok (.iconst 1, 1) := by decide +kernel
theorem dMd_prime_12 : decode cMd_prime 12 = .ok (.istore_n 2, 1) := by decide +kernel
theorem dMd_prime_13 : decode cMd_prime 13 = .ok (.iconst 2, 1) := by decide +kernel
theorem dMd_prime_14 : decode cMd_prime 14 = .ok (.istore_n 3, 1) := by decide +kernel
theorem dMd_prime_15 : decode cMd_prime 15 = .ok (.iload_n 3, 1) := by decide +kernel
theorem dMd_prime_16 : decode cMd_prime 16 = .ok (.iload_n 3, 1) := by decide +kernel
theorem dMd_prime_17 : decode cMd_prime 17 = .ok (.imul, 1) := by decide +kernel
theorem dMd_prime_18 : decode cMd_prime 18 = .ok (.iload_n 1, 1) := by decide +kernel
theorem dMd_prime_19 : decode cMd_prime 19 = .ok (.if_icmp .gt 17, 3) := by decide +kernel
theorem dMd_prime_22 : decode cMd_prime 22 = .ok (.iload_n 1, 1) := by decide +kernel
theorem dMd_prime_23 : decode cMd_prime 23 = .ok (.iload_n 3, 1) := by decide +kernel
theorem dMd_prime_24 : decode cMd_prime 24 = .ok (.irem, 1) := by decide +kernel
theorem dMd_prime_25 : decode cMd_prime 25 = .ok (.ifCond .ne 5, 3) := by decide +kernel
theorem dMd_prime_28 : decode cMd_prime 28 = .ok (.iconst 0, 1) := by decide +kernel
theorem dMd_prime_29 : decode cMd_prime 29 = .ok (.istore_n 2, 1) := by decide +kernel
theorem dMd_prime_30 : decode cMd_prime 30 = .ok (.iinc 3 1, 3) := by decide +kernel
theorem dMd_prime_33 : decode cMd_prime 33 = .ok (.goto (-18), 3) := by decide +kernel
theorem dMd_prime_36 : decode cMd_prime 36 = .ok (.goto (-32), 3) := by decide +kernel
theorem dMd_prime_39 : decode cMd_prime 39 = .ok (.iload_n 1, 1) := by decide +kernel
theorem dMd_prime_40 : decode cMd_prime 40 = .ok (.ireturn, 1) := by decide +kernel
theorem dMd_restart_0 : decode cMd_restart 0 = .ok (.aload_n 0, 1) := by decide +kernel
theorem dMd_restart_1 : decode cMd_restart 1 = .ok (.iload_n 1, 1) := by decide +kernel
theorem dMd_restart_2 : decode cMd_restart 2 = .ok (.invokestatic 139, 3) := by decide +kernel
theorem dMd_restart_5 : decode cMd_restart 5 = .ok (.ifCond .eq 7, 3) := by decide +kernel
theorem dMd_restart_8 : decode cMd_restart 8 = .ok (.iconst 1, 1) := by decide +kernel
theorem dMd_restart_9 : decode cMd_restart 9 = .ok (.goto 4, 3) := by decide +kernel
theorem dMd_restart_12 : decode cMd_restart 12 = .ok (.iconst 0, 1) := by decide +kernel
theorem dMd_restart_13 : decode cMd_restart 13 = .ok (.putfield 71, 3) := by decide +kernel
theorem dMd_restart_16 : decode cMd_restart 16 = .ok (.aload_n 0, 1) := by decide +kernel
theorem dMd_restart_17 : decode cMd_restart 17 = .ok (.getfield 71, 3) := by decide +kernel
theorem dMd_restart_20 : decode cMd_restart 20 = .ok (.ifCond .ne 10, 3) := by decide +kernel
theorem dMd_restart_23 : decode cMd_restart 23 = .ok (.aload_n 0, 1) := by decide +kernel
theorem dMd_restart_24 : decode cMd_restart 24 = .ok (.getfield 24, 3) := by decide +kernel
theorem dMd_restart_27 : decode cMd_restart 27 = .ok (.iload_n 1, 1) := by decide +kernel
theorem dMd_restart_28 : decode cMd_restart 28 = .ok (.iconst 0, 1) := by decide +kernel
theorem dMd_restart_29 : decode cMd_restart 29 = .ok (.iastore, 1) := by decide +kernel
theorem dMd_restart_30 : decode cMd_restart 30 = .ok (.return_, 1) := by decide +kernel
theorem dMd_result_0 : decode cMd_result 0 = .ok (.aload_n 0, 1) := by decide +kernel
theorem dMd_result_1 : decode cMd_result 1 = .ok (.iconst 0, 1) := by decide +kernel
theorem dMd_result_2 : decode cMd_result 2 = .ok (.putfield 71, 3) := by decide +kernel
theorem dMd_result_5 : decode cMd_result 5 = .ok (.iload_n 1, 1) := by decide +kernel
theorem dMd_result_6 : decode cMd_result 6 = .ok (.ifCond .lt 11, 3) := by decide +kernel
theorem dMd_result_9 : decode cMd_result 9 = .ok (.iload_n 1, 1) := by decide +kernel
theorem dMd_result_10 : decode cMd_result 10 = .ok (.aload_n 0, 1) := by decide +kernel
theorem dMd_result_11 : decode cMd_result 11 = .ok (.getfield 144, 3) := by decide +kernel
theorem dMd_result_14 : decode cMd_result 14 = .ok (.if_icmp .lt 9, 3) := by decide +kernel
theorem dMd_result_17 : decode cMd_result 17 = .ok (.aload_n 0, 1) := by decide +kernel
theorem dMd_result_18 : decode cMd_result 18 = .ok (.iconst 1, 1) := by decide +kernel
theorem dMd_result_19 : decode cMd_result 19 = .ok (.invokevirtual 136, 3) := by decide +kernel
theorem dMd_result_22 : decode cMd_result 22 = .ok (.ireturn, 1) := by decide +kernel
theorem dMd_result_23 : decode cMd_result 23 = .ok (.aload_n 0, 1) := by decide +kernel
theorem dMd_result_24 : decode cMd_result 24 = .ok (.getfield 17, 3) := by decide +kernel
theorem dMd_result_27 : decode cMd_result 27 = .ok (.iload_n 1, 1) := by decide +kernel
theorem dMd_result_28 : decode cMd_result 28 = .ok (.baload, 1) := by decide +kernel
theorem dMd_result_29 : decode cMd_result 29 = .ok (.sipush 255, 3) := by decide +kernel
theorem dMd_result_32 : decode cMd_result 32 = .ok (.iand, 1) := by decide +kernel
theorem dMd_result_33 : decode cMd_result 33 = .ok (.ireturn, 1) := by decide +kernel
theorem dMd_root_0 : decode cMd_root 0 = .ok (.lconst 0, 1) := by decide +kernel
theorem dMd_root_1 : decode cMd_root 1 = .ok (.lstore_n 3, 1) := by decide +kernel
theorem dMd_root_2 : decode cMd_root 2 = .ok (.lconst 0, 1) := by decide +kernel
theorem dMd_root_3 : decode cMd_root 3 = .ok (.lstore 5, 2) := by decide +kernel
theorem dMd_root_5 : decode cMd_root 5 = .ok (.bipush 66, 2) := by decide +kernel
theorem dMd_root_7 : decode cMd_root 7 = .ok (.istore 7, 2) := by decide +kernel
theorem dMd_root_9 : decode cMd_root 9 = .ok (.iload 7, 2) := by decide +kernel
theorem dMd_root_11 : decode cMd_root 11 = .ok (.ifCond .lt 72, 3) := by decide +kernel
theorem dMd_root_14 : decode cMd_root 14 = .ok (.iload 7, 2) := by decide +kernel
theorem dMd_root_16 : decode cMd_root 16 = .ok (.bipush 63, 2) := by decide +kernel
theorem dMd_root_18 : decode cMd_root 18 = .ok (.if_icmp .le 15, 3) := by decide +kernel
theorem dMd_root_21 : decode cMd_root 21 = .ok (.lload_n 3, 1) := by decide +kernel
theorem dMd_root_22 : decode cMd_root 22 = .ok (.lconst 1, 1) := by decide +kernel
theorem dMd_root_23 : decode cMd_root 23 = .ok (.iload 7, 2) := by decide +kernel
theorem dMd_root_25 : decode cMd_root 25 = .ok (.bipush 64, 2) := by decide +kernel
theorem dMd_root_27 : decode cMd_root 27 = .ok (.isub, 1) := by decide +kernel
theorem dMd_root_28 : decode cMd_root 28 = .ok (.lshl, 1) := by decide +kernel
theorem dMd_root_29 : decode cMd_root 29 = .ok (.lor, 1) := by decide +kernel
theorem dMd_root_30 : decode cMd_root 30 = .ok (.goto 4, 3) := by decide +kernel
theorem dMd_root_33 : decode cMd_root 33 = .ok (.lload_n 3, 1) := by decide +kernel
theorem dMd_root_34 : decode cMd_root 34 = .ok (.lstore 8, 2) := by decide +kernel
theorem dMd_root_36 : decode cMd_root 36 = .ok (.iload 7, 2) := by decide +kernel
theorem dMd_root_38 : decode cMd_root 38 = .ok (.bipush 63, 2) := by decide +kernel
theorem dMd_root_40 : decode cMd_root 40 = .ok (.if_icmp .le 8, 3) := by decide +kernel
theorem dMd_root_43 : decode cMd_root 43 = .ok (.lload 5, 2) := by decide +kernel
theorem dMd_root_45 : decode cMd_root 45 = .ok (.goto 10, 3) := by decide +kernel
theorem dMd_root_48 : decode cMd_root 48 = .ok (.lload 5, 2) := by decide +kernel
theorem dMd_root_50 : decode cMd_root 50 = .ok (.lconst 1, 1) := by decide +kernel
theorem dMd_root_51 : decode cMd_root 51 = .ok (.iload 7, 2) := by decide +kernel
theorem dMd_root_53 : decode cMd_root 53 = .ok (.lshl, 1) := by decide +kernel
theorem dMd_root_54 : decode cMd_root 54 = .ok (.lor, 1) := by decide +kernel
theorem dMd_root_55 : decode cMd_root 55 = .ok (.lstore 10, 2) := by decide +kernel
theorem dMd_root_57 : decode cMd_root 57 = .ok (.aload_n 0, 1) := by decide +kernel
theorem dMd_root_58 : decode cMd_root 58 = .ok (.lload 8, 2) := by decide +kernel
theorem dMd_root_60 : decode cMd_root 60 = .ok (.lload 10, 2) := by decide +kernel
theorem dMd_root_62 : decode cMd_root 62 = .ok (.iload_n 1, 1) := by decide +kernel
theorem dMd_root_63 : decode cMd_root 63 = .ok (.iload_n 2, 1) := by decide +kernel
theorem dMd_root_64 : decode cMd_root 64 = .ok (.invokevirtual 75, 3) := by decide +kernel
theorem dMd_root_67 : decode cMd_root 67 = .ok (.ifCond .eq 10, 3) := by decide +kernel
theorem dMd_root_70 : decode cMd_root 70 = .ok (.lload 8, 2) := by decide +kernel
theorem dMd_root_72 : decode cMd_root 72 = .ok (.lstore_n 3, 1) := by decide +kernel
theorem dMd_root_73 : decode cMd_root 73 = .ok (.lload 10, 2) := by decide +kernel
theorem dMd_root_75 : decode cMd_root 75 = .ok (.lstore 5, 2) := by decide +kernel
theorem dMd_root_77 : decode cMd_root 77 = .ok (.iinc 7 (-1), 3) := by decide +kernel
theorem dMd_root_80 : decode cMd_root 80 = .ok (.goto (-71), 3) := by decide +kernel
theorem dMd_root_83 : decode cMd_root 83 = .ok (.lload 5, 2) := by decide +kernel
theorem dMd_root_85 : decode cMd_root 85 = .ok (.lreturn, 1) := by decide +kernel
theorem dMd_shifted_0 : decode cMd_shifted 0 = .ok (.aload_n 0, 1) := by decide +kernel
theorem dMd_shifted_1 : decode cMd_shifted 1 = .ok (.lload_n 1, 1) := by decide +kernel
theorem dMd_shifted_2 : decode cMd_shifted 2 = .ok (.iload_n 3, 1) := by decide +kernel
theorem dMd_shifted_3 : decode cMd_shifted 3 = .ok (.invokevirtual 92, 3) := by decide +kernel
theorem dMd_shifted_6 : decode cMd_shifted 6 = .ok (.aload_n 0, 1) := by decide +kernel
theorem dMd_shifted_7 : decode cMd_shifted 7 = .ok (.lload_n 1, 1) := by decide +kernel
theorem dMd_shifted_8 : decode cMd_shifted 8 = .ok (.iload 4, 2) := by decide +kernel
theorem dMd_shifted_10 : decode cMd_shifted 10 = .ok (.invokevirtual 92, 3) := by decide +kernel
theorem dMd_shifted_13 : decode cMd_shifted 13 = .ok (.lxor, 1) := by decide +kernel
theorem dMd_shifted_14 : decode cMd_shifted 14 = .ok (.lload_n 1, 1) := by decide +kernel
theorem dMd_shifted_15 : decode cMd_shifted 15 = .ok (.iload 5, 2) := by decide +kernel
theorem dMd_shifted_17 : decode cMd_shifted 17 = .ok (.lushr, 1) := by decide +kernel
theorem dMd_shifted_18 : decode cMd_shifted 18 = .ok (.lxor, 1) := by decide +kernel
theorem dMd_shifted_19 : decode cMd_shifted 19 = .ok (.lreturn, 1) := by decide +kernel
theorem dMd_size_0 : decode cMd_size 0 = .ok (.iload_n 0, 1) := by decide +kernel
theorem dMd_size_1 : decode cMd_size 1 = .ok (.ifCond .ne 8, 3) := by decide +kernel
theorem dMd_size_4 : decode cMd_size 4 = .ok (.bipush 32, 2) := by decide +kernel
theorem dMd_size_6 : decode cMd_size 6 = .ok (.goto 15, 3) := by decide +kernel
theorem dMd_size_9 : decode cMd_size 9 = .ok (.iload_n 0, 1) := by decide +kernel
theorem dMd_size_10 : decode cMd_size 10 = .ok (.iconst 1, 1) := by decide +kernel
theorem dMd_size_11 : decode cMd_size 11 = .ok (.if_icmp .ne 8, 3) := by decide +kernel
theorem dMd_size_14 : decode cMd_size 14 = .ok (.bipush 48, 2) := by decide +kernel
theorem dMd_size_16 : decode cMd_size 16 = .ok (.goto 5, 3) := by decide +kernel
theorem dMd_size_19 : decode cMd_size 19 = .ok (.bipush 64, 2) := by decide +kernel
theorem dMd_size_21 : decode cMd_size 21 = .ok (.ireturn, 1) := by decide +kernel
theorem dMd_strange_0 : decode cMd_strange 0 = .ok (.iload_n 0, 1) := by decide +kernel
theorem dMd_strange_1 : decode cMd_strange 1 = .ok (.ifCond .lt 8, 3) := by decide +kernel
theorem dMd_strange_4 : decode cMd_strange 4 = .ok (.iload_n 0, 1) := by decide +kernel
theorem dMd_strange_5 : decode cMd_strange 5 = .ok (.iconst 2, 1) := by decide +kernel
theorem dMd_strange_6 : decode cMd_strange 6 = .ok (.if_icmp .le 7, 3) := by decide +kernel
theorem dMd_strange_9 : decode cMd_strange 9 = .ok (.iconst 1, 1) := by decide +kernel
theorem dMd_strange_10 : decode cMd_strange 10 = .ok (.goto 4, 3) := by decide +kernel
theorem dMd_strange_13 : decode cMd_strange 13 = .ok (.iconst 0, 1) := by decide +kernel
theorem dMd_strange_14 : decode cMd_strange 14 = .ok (.ireturn, 1) := by decide +kernel
theorem dMd_thrown_0 : decode cMd_thrown 0 = .ok (.aload_n 0, 1) := by decide +kernel
theorem dMd_thrown_1 : decode cMd_thrown 1 = .ok (.getfield 71, 3) := by decide +kernel
theorem dMd_thrown_4 : decode cMd_thrown 4 = .ok (.ireturn, 1) := by decide +kernel
theorem dMd_times_0 : decode cMd_times 0 = .ok (.iconst 0, 1) := by decide +kernel
theorem dMd_times_1 : decode cMd_times 1 = .ok (.istore 5, 2) := by decide +kernel
theorem dMd_times_3 : decode cMd_times 3 = .ok (.iload 5, 2) := by decide +kernel
theorem dMd_times_5 : decode cMd_times 5 = .ok (.bipush 8, 2) := by decide +kernel
theorem dMd_times_7 : decode cMd_times 7 = .ok (.if_icmp .ge 17, 3) := by decide +kernel
theorem dMd_times_10 : decode cMd_times 10 = .ok (.aload_n 0, 1) := by decide +kernel
theorem dMd_times_11 : decode cMd_times 11 = .ok (.getfield 60, 3) := by decide +kernel
theorem dMd_times_14 : decode cMd_times 14 = .ok (.iload 5, 2) := by decide +kernel
theorem dMd_times_16 : decode cMd_times 16 = .ok (.lconst 0, 1) := by decide +kernel
theorem dMd_times_17 : decode cMd_times 17 = .ok (.lastore, 1) := by decide +kernel
theorem dMd_times_18 : decode cMd_times 18 = .ok (.iinc 5 1, 3) := by decide +kernel
theorem dMd_times_21 : decode cMd_times 21 = .ok (.goto (-18), 3) := by decide +kernel
theorem dMd_times_24 : decode cMd_times 24 = .ok (.iconst 0, 1) := by decide +kernel
theorem dMd_times_25 : decode cMd_times 25 = .ok (.istore 5, 2) := by decide +kernel
theorem dMd_times_27 : decode cMd_times 27 = .ok (.iload 5, 2) := by decide +kernel
theorem dMd_times_29 : decode cMd_times 29 = .ok (.iconst 3, 1) := by decide +kernel
theorem dMd_times_30 : decode cMd_times 30 = .ok (.if_icmp .ge 109, 3) := by decide +kernel
theorem dMd_times_33 : decode cMd_times 33 = .ok (.iload 5, 2) := by decide +kernel
theorem dMd_times_35 : decode cMd_times 35 = .ok (.ifCond .ne 11, 3) := by decide +kernel
theorem dMd_times_38 : decode cMd_times 38 = .ok (.lload_n 3, 1) := by decide +kernel
theorem dMd_times_39 : decode cMd_times 39 = .ok (.ldc2_w 83, 3) := by decide +kernel
theorem dMd_times_42 : decode cMd_times 42 = .ok (.land, 1) := by decide +kernel
theorem dMd_times_43 : decode cMd_times 43 = .ok (.goto 17, 3) := by decide +kernel
theorem dMd_times_46 : decode cMd_times 46 = .ok (.iload 5, 2) := by decide +kernel
theorem dMd_times_48 : decode cMd_times 48 = .ok (.iconst 1, 1) := by decide +kernel
theorem dMd_times_49 : decode cMd_times 49 = .ok (.if_icmp .ne 10, 3) := by decide +kernel
theorem dMd_times_52 : decode cMd_times 52 = .ok (.lload_n 3, 1) := by decide +kernel
theorem dMd_times_53 : decode cMd_times 53 = .ok (.bipush 32, 2) := by decide +kernel
theorem dMd_times_55 : decode cMd_times 55 = .ok (.lushr, 1) := by decide +kernel
theorem dMd_times_56 : decode cMd_times 56 = .ok (.goto 4, 3) := by decide +kernel
theorem dMd_times_59 : decode cMd_times 59 = .ok (.lload_n 1, 1) := by decide +kernel
theorem dMd_times_60 : decode cMd_times 60 = .ok (.lstore 6, 2) := by decide +kernel
theorem dMd_times_62 : decode cMd_times 62 = .ok (.lconst 0, 1) := by decide +kernel
theorem dMd_times_63 : decode cMd_times 63 = .ok (.lstore 8, 2) := by decide +kernel
theorem dMd_times_65 : decode cMd_times 65 = .ok (.iconst 0, 1) := by decide +kernel
theorem dMd_times_66 : decode cMd_times 66 = .ok (.istore 10, 2) := by decide +kernel
theorem dMd_times_68 : decode cMd_times 68 = .ok (.iload 5, 2) := by decide +kernel
theorem dMd_times_70 : decode cMd_times 70 = .ok (.iload 10, 2) := by decide +kernel
theorem dMd_times_72 : decode cMd_times 72 = .ok (.iadd, 1) := by decide +kernel
theorem dMd_times_73 : decode cMd_times 73 = .ok (.bipush 8, 2) := by decide +kernel
theorem dMd_times_75 : decode cMd_times 75 = .ok (.if_icmp .ge 58, 3) := by decide +kernel
theorem dMd_times_78 : decode cMd_times 78 = .ok (.aload_n 0, 1) := by decide +kernel
theorem dMd_times_79 : decode cMd_times 79 = .ok (.getfield 60, 3) := by decide +kernel
theorem dMd_times_82 : decode cMd_times 82 = .ok (.iload 5, 2) := by decide +kernel
theorem dMd_times_84 : decode cMd_times 84 = .ok (.iload 10, 2) := by decide +kernel
theorem dMd_times_86 : decode cMd_times 86 = .ok (.iadd, 1) := by decide +kernel
theorem dMd_times_87 : decode cMd_times 87 = .ok (.laload, 1) := by decide +kernel
theorem dMd_times_88 : decode cMd_times 88 = .ok (.lload 6, 2) := by decide +kernel
theorem dMd_times_90 : decode cMd_times 90 = .ok (.aload_n 0, 1) := by decide +kernel
theorem dMd_times_91 : decode cMd_times 91 = .ok (.getfield 57, 3) := by decide +kernel
theorem dMd_times_94 : decode cMd_times 94 = .ok (.iload 10, 2) := by decide +kernel
theorem dMd_times_96 : decode cMd_times 96 = .ok (.laload, 1) := by decide +kernel
theorem dMd_times_97 : decode cMd_times 97 = .ok (.lmul, 1) := by decide +kernel
theorem dMd_times_98 : decode cMd_times 98 = .ok (.ladd, 1) := by decide +kernel
theorem dMd_times_99 : decode cMd_times 99 = .ok (.lload 8, 2) := by decide +kernel
theorem dMd_times_101 : decode cMd_times 101 = .ok (.ladd, 1) := by decide +kernel
theorem dMd_times_102 : decode cMd_times 102 = .ok (.lstore 11, 2) := by decide +kernel
theorem dMd_times_104 : decode cMd_times 104 = .ok (.aload_n 0, 1) := by decide +kernel
theorem dMd_times_105 : decode cMd_times 105 = .ok (.getfield 60, 3) := by decide +kernel
theorem dMd_times_108 : decode cMd_times 108 = .ok (.iload 5, 2) := by decide +kernel
theorem dMd_times_110 : decode cMd_times 110 = .ok (.iload 10, 2) := by decide +kernel
theorem dMd_times_112 : decode cMd_times 112 = .ok (.iadd, 1) := by decide +kernel
theorem dMd_times_113 : decode cMd_times 113 = .ok (.lload 11, 2) := by decide +kernel
theorem dMd_times_115 : decode cMd_times 115 = .ok (.ldc2_w 83, 3) := by decide +kernel
theorem dMd_times_118 : decode cMd_times 118 = .ok (.land, 1) := by decide +kernel
theorem dMd_times_119 : decode cMd_times 119 = .ok (.lastore, 1) := by decide +kernel
theorem dMd_times_120 : decode cMd_times 120 = .ok (.lload 11, 2) := by decide +kernel
theorem dMd_times_122 : decode cMd_times 122 = .ok (.bipush 32, 2) := by decide +kernel
theorem dMd_times_124 : decode cMd_times 124 = .ok (.lushr, 1) := by decide +kernel
theorem dMd_times_125 : decode cMd_times 125 = .ok (.lstore 8, 2) := by decide +kernel
theorem dMd_times_127 : decode cMd_times 127 = .ok (.iinc 10 1, 3) := by decide +kernel
theorem dMd_times_130 : decode cMd_times 130 = .ok (.goto (-62), 3) := by decide +kernel
theorem dMd_times_133 : decode cMd_times 133 = .ok (.iinc 5 1, 3) := by decide +kernel
theorem dMd_times_136 : decode cMd_times 136 = .ok (.goto (-109), 3) := by decide +kernel
theorem dMd_times_139 : decode cMd_times 139 = .ok (.iconst 0, 1) := by decide +kernel
theorem dMd_times_140 : decode cMd_times 140 = .ok (.istore 5, 2) := by decide +kernel
theorem dMd_times_142 : decode cMd_times 142 = .ok (.iload 5, 2) := by decide +kernel
theorem dMd_times_144 : decode cMd_times 144 = .ok (.bipush 8, 2) := by decide +kernel
theorem dMd_times_146 : decode cMd_times 146 = .ok (.if_icmp .ge 23, 3) := by decide +kernel
theorem dMd_times_149 : decode cMd_times 149 = .ok (.aload_n 0, 1) := by decide +kernel
theorem dMd_times_150 : decode cMd_times 150 = .ok (.getfield 57, 3) := by decide +kernel
theorem dMd_times_153 : decode cMd_times 153 = .ok (.iload 5, 2) := by decide +kernel
theorem dMd_times_155 : decode cMd_times 155 = .ok (.aload_n 0, 1) := by decide +kernel
theorem dMd_times_156 : decode cMd_times 156 = .ok (.getfield 60, 3) := by decide +kernel
theorem dMd_times_159 : decode cMd_times 159 = .ok (.iload 5, 2) := by decide +kernel
theorem dMd_times_161 : decode cMd_times 161 = .ok (.laload, 1) := by decide +kernel
theorem dMd_times_162 : decode cMd_times 162 = .ok (.lastore, 1) := by decide +kernel
theorem dMd_times_163 : decode cMd_times 163 = .ok (.iinc 5 1, 3) := by decide +kernel
theorem dMd_times_166 : decode cMd_times 166 = .ok (.goto (-24), 3) := by decide +kernel
theorem dMd_times_169 : decode cMd_times 169 = .ok (.return_, 1) := by decide +kernel
theorem dMd_turned_0 : decode cMd_turned 0 = .ok (.aload_n 0, 1) := by decide +kernel
theorem dMd_turned_1 : decode cMd_turned 1 = .ok (.getfield 88, 3) := by decide +kernel
theorem dMd_turned_4 : decode cMd_turned 4 = .ok (.ifCond .eq 16, 3) := by decide +kernel
theorem dMd_turned_7 : decode cMd_turned 7 = .ok (.lload_n 1, 1) := by decide +kernel
theorem dMd_turned_8 : decode cMd_turned 8 = .ok (.iload_n 3, 1) := by decide +kernel
theorem dMd_turned_9 : decode cMd_turned 9 = .ok (.lushr, 1) := by decide +kernel
theorem dMd_turned_10 : decode cMd_turned 10 = .ok (.lload_n 1, 1) := by decide +kernel
theorem dMd_turned_11 : decode cMd_turned 11 = .ok (.bipush 64, 2) := by decide +kernel
theorem dMd_turned_13 : decode cMd_turned 13 = .ok (.iload_n 3, 1) := by decide +kernel
theorem dMd_turned_14 : decode cMd_turned 14 = .ok (.isub, 1) := by decide +kernel
theorem dMd_turned_15 : decode cMd_turned 15 = .ok (.lshl, 1) := by decide +kernel
theorem dMd_turned_16 : decode cMd_turned 16 = .ok (.lor, 1) := by decide +kernel
theorem dMd_turned_17 : decode cMd_turned 17 = .ok (.goto 17, 3) := by decide +kernel
theorem dMd_turned_20 : decode cMd_turned 20 = .ok (.lload_n 1, 1) := by decide +kernel
theorem dMd_turned_21 : decode cMd_turned 21 = .ok (.iload_n 3, 1) := by decide +kernel
theorem dMd_turned_22 : decode cMd_turned 22 = .ok (.lushr, 1) := by decide +kernel
theorem dMd_turned_23 : decode cMd_turned 23 = .ok (.lload_n 1, 1) := by decide +kernel
theorem dMd_turned_24 : decode cMd_turned 24 = .ok (.bipush 32, 2) := by decide +kernel
theorem dMd_turned_26 : decode cMd_turned 26 = .ok (.iload_n 3, 1) := by decide +kernel
theorem dMd_turned_27 : decode cMd_turned 27 = .ok (.isub, 1) := by decide +kernel
theorem dMd_turned_28 : decode cMd_turned 28 = .ok (.lshl, 1) := by decide +kernel
theorem dMd_turned_29 : decode cMd_turned 29 = .ok (.lor, 1) := by decide +kernel
theorem dMd_turned_30 : decode cMd_turned 30 = .ok (.ldc2_w 83, 3) := by decide +kernel
theorem dMd_turned_33 : decode cMd_turned 33 = .ok (.land, 1) := by decide +kernel
theorem dMd_turned_34 : decode cMd_turned 34 = .ok (.lreturn, 1) := by decide +kernel
