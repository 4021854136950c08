/-! THE LAW: its code -/
theorem dLw_end_0 : decode cLw_end 0 = .ok (.aload_n 2, 1) := by decide +kernel
theorem dLw_end_1 : decode cLw_end 1 = .ok (.iconst 0, 1) := by decide +kernel
theorem dLw_end_2 : decode cLw_end 2 = .ok (.aload_n 0, 1) := by decide +kernel
theorem dLw_end_3 : decode cLw_end 3 = .ok (.iload_n 1, 1) := by decide +kernel
theorem dLw_end_4 : decode cLw_end 4 = .ok (.invokevirtual 15, 3) := by decide +kernel
theorem dLw_end_7 : decode cLw_end 7 = .ok (.i2l, 1) := by decide +kernel
theorem dLw_end_8 : decode cLw_end 8 = .ok (.lastore, 1) := by decide +kernel
theorem dLw_end_9 : decode cLw_end 9 = .ok (.goto 6, 3) := by decide +kernel
theorem dLw_end_12 : decode cLw_end 12 = .ok (.astore_n 3, 1) := by decide +kernel
theorem dLw_end_13 : decode cLw_end 13 = .ok (.iconst 1, 1) := by decide +kernel
theorem dLw_end_14 : decode cLw_end 14 = .ok (.ireturn, 1) := by decide +kernel
theorem dLw_end_15 : decode cLw_end 15 = .ok (.iconst 0, 1) := by decide +kernel
theorem dLw_end_16 : decode cLw_end 16 = .ok (.ireturn, 1) := by decide +kernel
theorem dLw_expand_0 : decode cLw_expand 0 = .ok (.aload_n 3, 1) := by decide +kernel
theorem dLw_expand_1 : decode cLw_expand 1 = .ok (.iconst 0, 1) := by decide +kernel
theorem dLw_expand_2 : decode cLw_expand 2 = .ok (.aload_n 0, 1) := by decide +kernel
theorem dLw_expand_3 : decode cLw_expand 3 = .ok (.iload_n 1, 1) := by decide +kernel
theorem dLw_expand_4 : decode cLw_expand 4 = .ok (.iload_n 2, 1) := by decide +kernel
theorem dLw_expand_5 : decode cLw_expand 5 = .ok (.invokevirtual 37, 3) := by decide +kernel
theorem dLw_expand_8 : decode cLw_expand 8 = .ok (.i2l, 1) := by decide +kernel
theorem dLw_expand_9 : decode cLw_expand 9 = .ok (.lastore, 1) := by decide +kernel
theorem dLw_expand_10 : decode cLw_expand 10 = .ok (.goto 11, 3) := by decide +kernel
theorem dLw_expand_13 : decode cLw_expand 13 = .ok (.astore 4, 2) := by decide +kernel
theorem dLw_expand_15 : decode cLw_expand 15 = .ok (.iconst 1, 1) := by decide +kernel
theorem dLw_expand_16 : decode cLw_expand 16 = .ok (.ireturn, 1) := by decide +kernel
theorem dLw_expand_17 : decode cLw_expand 17 = .ok (.astore 4, 2) := by decide +kernel
theorem dLw_expand_19 : decode cLw_expand 19 = .ok (.iconst 2, 1) := by decide +kernel
theorem dLw_expand_20 : decode cLw_expand 20 = .ok (.ireturn, 1) := by decide +kernel
theorem dLw_expand_21 : decode cLw_expand 21 = .ok (.iconst 0, 1) := by decide +kernel
theorem dLw_expand_22 : decode cLw_expand 22 = .ok (.ireturn, 1) := by decide +kernel
theorem dLw_expandLabel_0 : decode cLw_expandLabel 0 = .ok (.aload 4, 2) := by decide +kernel
theorem dLw_expandLabel_2 : decode cLw_expandLabel 2 = .ok (.iconst 0, 1) := by decide +kernel
theorem dLw_expandLabel_3 : decode cLw_expandLabel 3 = .ok (.aload_n 0, 1) := by decide +kernel
theorem dLw_expandLabel_4 : decode cLw_expandLabel 4 = .ok (.iload_n 1, 1) := by decide +kernel
theorem dLw_expandLabel_5 : decode cLw_expandLabel 5 = .ok (.iload_n 2, 1) := by decide +kernel
theorem dLw_expandLabel_6 : decode cLw_expandLabel 6 = .ok (.iload_n 3, 1) := by decide +kernel
theorem dLw_expandLabel_7 : decode cLw_expandLabel 7 = .ok (.invokevirtual 41, 3) := by decide +kernel
theorem dLw_expandLabel_10 : decode cLw_expandLabel 10 = .ok (.i2l, 1) := by decide +kernel
theorem dLw_expandLabel_11 : decode cLw_expandLabel 11 = .ok (.lastore, 1) := by decide +kernel
theorem dLw_expandLabel_12 : decode cLw_expandLabel 12 = .ok (.goto 11, 3) := by decide +kernel
theorem dLw_expandLabel_15 : decode cLw_expandLabel 15 = .ok (.astore 5, 2) := by decide +kernel
theorem dLw_expandLabel_17 : decode cLw_expandLabel 17 = .ok (.iconst 1, 1) := by decide +kernel
theorem dLw_expandLabel_18 : decode cLw_expandLabel 18 = .ok (.ireturn, 1) := by decide +kernel
theorem dLw_expandLabel_19 : decode cLw_expandLabel 19 = .ok (.astore 5, 2) := by decide +kernel
theorem dLw_expandLabel_21 : decode cLw_expandLabel 21 = .ok (.iconst 2, 1) := by decide +kernel
theorem dLw_expandLabel_22 : decode cLw_expandLabel 22 = .ok (.ireturn, 1) := by decide +kernel
theorem dLw_expandLabel_23 : decode cLw_expandLabel 23 = .ok (.iconst 0, 1) := by decide +kernel
theorem dLw_expandLabel_24 : decode cLw_expandLabel 24 = .ok (.ireturn, 1) := by decide +kernel
theorem dLw_feed_0 : decode cLw_feed 0 = .ok (.aload 6, 2) := by decide +kernel
theorem dLw_feed_2 : decode cLw_feed 2 = .ok (.iconst 0, 1) := by decide +kernel
theorem dLw_feed_3 : decode cLw_feed 3 = .ok (.aload_n 0, 1) := by decide +kernel
theorem dLw_feed_4 : decode cLw_feed 4 = .ok (.iload_n 1, 1) := by decide +kernel
theorem dLw_feed_5 : decode cLw_feed 5 = .ok (.iload_n 2, 1) := by decide +kernel
theorem dLw_feed_6 : decode cLw_feed 6 = .ok (.iload_n 3, 1) := by decide +kernel
theorem dLw_feed_7 : decode cLw_feed 7 = .ok (.iload 4, 2) := by decide +kernel
theorem dLw_feed_9 : decode cLw_feed 9 = .ok (.iload 5, 2) := by decide +kernel
theorem dLw_feed_11 : decode cLw_feed 11 = .ok (.invokevirtual 7, 3) := by decide +kernel
theorem dLw_feed_14 : decode cLw_feed 14 = .ok (.i2l, 1) := by decide +kernel
theorem dLw_feed_15 : decode cLw_feed 15 = .ok (.lastore, 1) := by decide +kernel
theorem dLw_feed_16 : decode cLw_feed 16 = .ok (.goto 7, 3) := by decide +kernel
theorem dLw_feed_19 : decode cLw_feed 19 = .ok (.astore 7, 2) := by decide +kernel
theorem dLw_feed_21 : decode cLw_feed 21 = .ok (.iconst 1, 1) := by decide +kernel
theorem dLw_feed_22 : decode cLw_feed 22 = .ok (.ireturn, 1) := by decide +kernel
theorem dLw_feed_23 : decode cLw_feed 23 = .ok (.iconst 0, 1) := by decide +kernel
theorem dLw_feed_24 : decode cLw_feed 24 = .ok (.ireturn, 1) := by decide +kernel
theorem dLw_hmac_0 : decode cLw_hmac 0 = .ok (.aload_n 2, 1) := by decide +kernel
theorem dLw_hmac_1 : decode cLw_hmac 1 = .ok (.iconst 0, 1) := by decide +kernel
theorem dLw_hmac_2 : decode cLw_hmac 2 = .ok (.aload_n 0, 1) := by decide +kernel
theorem dLw_hmac_3 : decode cLw_hmac 3 = .ok (.iload_n 1, 1) := by decide +kernel
theorem dLw_hmac_4 : decode cLw_hmac 4 = .ok (.invokevirtual 34, 3) := by decide +kernel
theorem dLw_hmac_7 : decode cLw_hmac 7 = .ok (.i2l, 1) := by decide +kernel
theorem dLw_hmac_8 : decode cLw_hmac 8 = .ok (.lastore, 1) := by decide +kernel
theorem dLw_hmac_9 : decode cLw_hmac 9 = .ok (.goto 6, 3) := by decide +kernel
theorem dLw_hmac_12 : decode cLw_hmac 12 = .ok (.astore_n 3, 1) := by decide +kernel
theorem dLw_hmac_13 : decode cLw_hmac 13 = .ok (.iconst 1, 1) := by decide +kernel
theorem dLw_hmac_14 : decode cLw_hmac 14 = .ok (.ireturn, 1) := by decide +kernel
theorem dLw_hmac_15 : decode cLw_hmac 15 = .ok (.iconst 0, 1) := by decide +kernel
theorem dLw_hmac_16 : decode cLw_hmac 16 = .ok (.ireturn, 1) := by decide +kernel
theorem dLw_law_0 : decode cLw_law 0 = .ok (.new 8, 3) := by decide +kernel
theorem dLw_law_3 : decode cLw_law 3 = .ok (.dup, 1) := by decide +kernel
theorem dLw_law_4 : decode cLw_law 4 = .ok (.invokespecial 50, 3) := by decide +kernel
theorem dLw_law_7 : decode cLw_law 7 = .ok (.astore_n 1, 1) := by decide +kernel
theorem dLw_law_8 : decode cLw_law 8 = .ok (.new 51, 3) := by decide +kernel
theorem dLw_law_11 : decode cLw_law 11 = .ok (.dup, 1) := by decide +kernel
theorem dLw_law_12 : decode cLw_law 12 = .ok (.invokespecial 53, 3) := by decide +kernel
theorem dLw_law_15 : decode cLw_law 15 = .ok (.astore_n 2, 1) := by decide +kernel
theorem dLw_law_16 : decode cLw_law 16 = .ok (.iconst 1, 1) := by decide +kernel
theorem dLw_law_17 : decode cLw_law 17 = .ok (.newarray .long, 2) := by decide +kernel
theorem dLw_law_19 : decode cLw_law 19 = .ok (.astore_n 3, 1) := by decide +kernel
theorem dLw_law_20 : decode cLw_law 20 = .ok (.iconst 0, 1) := by decide +kernel
theorem dLw_law_21 : decode cLw_law 21 = .ok (.istore 4, 2) := by decide +kernel
theorem dLw_law_23 : decode cLw_law 23 = .ok (.iload 4, 2) := by decide +kernel
theorem dLw_law_25 : decode cLw_law 25 = .ok (.aload_n 0, 1) := by decide +kernel
theorem dLw_law_26 : decode cLw_law 26 = .ok (.arraylength, 1) := by decide +kernel
theorem dLw_law_27 : decode cLw_law 27 = .ok (.bipush 6, 2) := by decide +kernel
theorem dLw_law_29 : decode cLw_law 29 = .ok (.isub, 1) := by decide +kernel
theorem dLw_law_30 : decode cLw_law 30 = .ok (.if_icmp .gt 698, 3) := by decide +kernel
theorem dLw_law_33 : decode cLw_law 33 = .ok (.aload_n 0, 1) := by decide +kernel
theorem dLw_law_34 : decode cLw_law 34 = .ok (.iload 4, 2) := by decide +kernel
theorem dLw_law_36 : decode cLw_law 36 = .ok (.iaload, 1) := by decide +kernel
theorem dLw_law_37 : decode cLw_law 37 = .ok (.bipush 15, 2) := by decide +kernel
theorem dLw_law_39 : decode cLw_law 39 = .ok (.iand, 1) := by decide +kernel
theorem dLw_law_40 : decode cLw_law 40 = .ok (.tableswitch 682 0 11 #[64, 168, 224, 260, 315, 371, 384, 397, 453, 521, 601, 657], 64) := by decide +kernel
theorem dLw_law_104 : decode cLw_law 104 = .ok (.aload_n 1, 1) := by decide +kernel
theorem dLw_law_105 : decode cLw_law 105 = .ok (.aload_n 0, 1) := by decide +kernel
theorem dLw_law_106 : decode cLw_law 106 = .ok (.iload 4, 2) := by decide +kernel
theorem dLw_law_108 : decode cLw_law 108 = .ok (.iconst 1, 1) := by decide +kernel
theorem dLw_law_109 : decode cLw_law 109 = .ok (.iadd, 1) := by decide +kernel
theorem dLw_law_110 : decode cLw_law 110 = .ok (.iaload, 1) := by decide +kernel
theorem dLw_law_111 : decode cLw_law 111 = .ok (.aload_n 0, 1) := by decide +kernel
theorem dLw_law_112 : decode cLw_law 112 = .ok (.iload 4, 2) := by decide +kernel
theorem dLw_law_114 : decode cLw_law 114 = .ok (.iconst 2, 1) := by decide +kernel
theorem dLw_law_115 : decode cLw_law 115 = .ok (.iadd, 1) := by decide +kernel
theorem dLw_law_116 : decode cLw_law 116 = .ok (.iaload, 1) := by decide +kernel
theorem dLw_law_117 : decode cLw_law 117 = .ok (.aload_n 0, 1) := by decide +kernel
theorem dLw_law_118 : decode cLw_law 118 = .ok (.iload 4, 2) := by decide +kernel
theorem dLw_law_120 : decode cLw_law 120 = .ok (.iconst 3, 1) := by decide +kernel
theorem dLw_law_121 : decode cLw_law 121 = .ok (.iadd, 1) := by decide +kernel
theorem dLw_law_122 : decode cLw_law 122 = .ok (.iaload, 1) := by decide +kernel
theorem dLw_law_123 : decode cLw_law 123 = .ok (.aload_n 0, 1) := by decide +kernel
theorem dLw_law_124 : decode cLw_law 124 = .ok (.iload 4, 2) := by decide +kernel
theorem dLw_law_126 : decode cLw_law 126 = .ok (.iconst 4, 1) := by decide +kernel
theorem dLw_law_127 : decode cLw_law 127 = .ok (.iadd, 1) := by decide +kernel
theorem dLw_law_128 : decode cLw_law 128 = .ok (.iaload, 1) := by decide +kernel
theorem dLw_law_129 : decode cLw_law 129 = .ok (.aload_n 0, 1) := by decide +kernel
theorem dLw_law_130 : decode cLw_law 130 = .ok (.iload 4, 2) := by decide +kernel
theorem dLw_law_132 : decode cLw_law 132 = .ok (.iconst 5, 1) := by decide +kernel
theorem dLw_law_133 : decode cLw_law 133 = .ok (.iadd, 1) := by decide +kernel
theorem dLw_law_134 : decode cLw_law 134 = .ok (.iaload, 1) := by decide +kernel
theorem dLw_law_135 : decode cLw_law 135 = .ok (.aload_n 3, 1) := by decide +kernel
theorem dLw_law_136 : decode cLw_law 136 = .ok (.invokestatic 54, 3) := by decide +kernel
theorem dLw_law_139 : decode cLw_law 139 = .ok (.istore 5, 2) := by decide +kernel
theorem dLw_law_141 : decode cLw_law 141 = .ok (.aload_n 2, 1) := by decide +kernel
theorem dLw_law_142 : decode cLw_law 142 = .ok (.aload_n 0, 1) := by decide +kernel
theorem dLw_law_143 : decode cLw_law 143 = .ok (.iload 4, 2) := by decide +kernel
theorem dLw_law_145 : decode cLw_law 145 = .ok (.iconst 1, 1) := by decide +kernel
theorem dLw_law_146 : decode cLw_law 146 = .ok (.iadd, 1) := by decide +kernel
theorem dLw_law_147 : decode cLw_law 147 = .ok (.iaload, 1) := by decide +kernel
theorem dLw_law_148 : decode cLw_law 148 = .ok (.aload_n 0, 1) := by decide +kernel
theorem dLw_law_149 : decode cLw_law 149 = .ok (.iload 4, 2) := by decide +kernel
theorem dLw_law_151 : decode cLw_law 151 = .ok (.iconst 2, 1) := by decide +kernel
theorem dLw_law_152 : decode cLw_law 152 = .ok (.iadd, 1) := by decide +kernel
theorem dLw_law_153 : decode cLw_law 153 = .ok (.iaload, 1) := by decide +kernel
theorem dLw_law_154 : decode cLw_law 154 = .ok (.aload_n 0, 1) := by decide +kernel
theorem dLw_law_155 : decode cLw_law 155 = .ok (.iload 4, 2) := by decide +kernel
theorem dLw_law_157 : decode cLw_law 157 = .ok (.iconst 3, 1) := by decide +kernel
theorem dLw_law_158 : decode cLw_law 158 = .ok (.iadd, 1) := by decide +kernel
theorem dLw_law_159 : decode cLw_law 159 = .ok (.iaload, 1) := by decide +kernel
theorem dLw_law_160 : decode cLw_law 160 = .ok (.aload_n 0, 1) := by decide +kernel
theorem dLw_law_161 : decode cLw_law 161 = .ok (.iload 4, 2) := by decide +kernel
theorem dLw_law_163 : decode cLw_law 163 = .ok (.iconst 4, 1) := by decide +kernel
theorem dLw_law_164 : decode cLw_law 164 = .ok (.iadd, 1) := by decide +kernel
theorem dLw_law_165 : decode cLw_law 165 = .ok (.iaload, 1) := by decide +kernel
theorem dLw_law_166 : decode cLw_law 166 = .ok (.aload_n 0, 1) := by decide +kernel
theorem dLw_law_167 : decode cLw_law 167 = .ok (.iload 4, 2) := by decide +kernel
theorem dLw_law_169 : decode cLw_law 169 = .ok (.iconst 5, 1) := by decide +kernel
theorem dLw_law_170 : decode cLw_law 170 = .ok (.iadd, 1) := by decide +kernel
theorem dLw_law_171 : decode cLw_law 171 = .ok (.iaload, 1) := by decide +kernel
theorem dLw_law_172 : decode cLw_law 172 = .ok (.invokevirtual 59, 3) := by decide +kernel
theorem dLw_law_175 : decode cLw_law 175 = .ok (.istore 6, 2) := by decide +kernel
theorem dLw_law_177 : decode cLw_law 177 = .ok (.aload_n 2, 1) := by decide +kernel
theorem dLw_law_178 : decode cLw_law 178 = .ok (.invokevirtual 60, 3) := by decide +kernel
theorem dLw_law_181 : decode cLw_law 181 = .ok (.iload 5, 2) := by decide +kernel
theorem dLw_law_183 : decode cLw_law 183 = .ok (.if_icmp .eq 5, 3) := by decide +kernel
theorem dLw_law_186 : decode cLw_law 186 = .ok (.iconst 0, 1) := by decide +kernel
theorem dLw_law_187 : decode cLw_law 187 = .ok (.ireturn, 1) := by decide +kernel
theorem dLw_law_188 : decode cLw_law 188 = .ok (.iload 5, 2) := by decide +kernel
theorem dLw_law_190 : decode cLw_law 190 = .ok (.ifCond .ne 15, 3) := by decide +kernel
theorem dLw_law_193 : decode cLw_law 193 = .ok (.aload_n 3, 1) := by decide +kernel
theorem dLw_law_194 : decode cLw_law 194 = .ok (.iconst 0, 1) := by decide +kernel
theorem dLw_law_195 : decode cLw_law 195 = .ok (.laload, 1) := by decide +kernel
theorem dLw_law_196 : decode cLw_law 196 = .ok (.iload 6, 2) := by decide +kernel
theorem dLw_law_198 : decode cLw_law 198 = .ok (.i2l, 1) := by decide +kernel
theorem dLw_law_199 : decode cLw_law 199 = .ok (.lcmp, 1) := by decide +kernel
theorem dLw_law_200 : decode cLw_law 200 = .ok (.ifCond .eq 5, 3) := by decide +kernel
theorem dLw_law_203 : decode cLw_law 203 = .ok (.iconst 0, 1) := by decide +kernel
theorem dLw_law_204 : decode cLw_law 204 = .ok (.ireturn, 1) := by decide +kernel
theorem dLw_law_205 : decode cLw_law 205 = .ok (.goto 517, 3) := by decide +kernel
theorem dLw_law_208 : decode cLw_law 208 = .ok (.aload_n 1, 1) := by decide +kernel
theorem dLw_law_209 : decode cLw_law 209 = .ok (.aload_n 0, 1) := by decide +kernel
theorem dLw_law_210 : decode cLw_law 210 = .ok (.iload 4, 2) := by decide +kernel
theorem dLw_law_212 : decode cLw_law 212 = .ok (.iconst 1, 1) := by decide +kernel
theorem dLw_law_213 : decode cLw_law 213 = .ok (.iadd, 1) := by decide +kernel
theorem dLw_law_214 : decode cLw_law 214 = .ok (.iaload, 1) := by decide +kernel
theorem dLw_law_215 : decode cLw_law 215 = .ok (.aload_n 3, 1) := by decide +kernel
theorem dLw_law_216 : decode cLw_law 216 = .ok (.invokestatic 64, 3) := by decide +kernel
theorem dLw_law_219 : decode cLw_law 219 = .ok (.istore 5, 2) := by decide +kernel
theorem dLw_law_221 : decode cLw_law 221 = .ok (.aload_n 2, 1) := by decide +kernel
theorem dLw_law_222 : decode cLw_law 222 = .ok (.aload_n 0, 1) := by decide +kernel
theorem dLw_law_223 : decode cLw_law 223 = .ok (.iload 4, 2) := by decide +kernel
theorem dLw_law_225 : decode cLw_law 225 = .ok (.iconst 1, 1) := by decide +kernel
theorem dLw_law_226 : decode cLw_law 226 = .ok (.iadd, 1) := by decide +kernel
theorem dLw_law_227 : decode cLw_law 227 = .ok (.iaload, 1) := by decide +kernel
theorem dLw_law_228 : decode cLw_law 228 = .ok (.invokevirtual 67, 3) := by decide +kernel
theorem dLw_law_231 : decode cLw_law 231 = .ok (.istore 6, 2) := by decide +kernel
theorem dLw_law_233 : decode cLw_law 233 = .ok (.aload_n 2, 1) := by decide +kernel
theorem dLw_law_234 : decode cLw_law 234 = .ok (.invokevirtual 60, 3) := by decide +kernel
theorem dLw_law_237 : decode cLw_law 237 = .ok (.iload 5, 2) := by decide +kernel
theorem dLw_law_239 : decode cLw_law 239 = .ok (.if_icmp .eq 5, 3) := by decide +kernel
theorem dLw_law_242 : decode cLw_law 242 = .ok (.iconst 0, 1) := by decide +kernel
theorem dLw_law_243 : decode cLw_law 243 = .ok (.ireturn, 1) := by decide +kernel
theorem dLw_law_244 : decode cLw_law 244 = .ok (.iload 5, 2) := by decide +kernel
theorem dLw_law_246 : decode cLw_law 246 = .ok (.ifCond .ne 15, 3) := by decide +kernel
theorem dLw_law_249 : decode cLw_law 249 = .ok (.aload_n 3, 1) := by decide +kernel
theorem dLw_law_250 : decode cLw_law 250 = .ok (.iconst 0, 1) := by decide +kernel
theorem dLw_law_251 : decode cLw_law 251 = .ok (.laload, 1) := by decide +kernel
theorem dLw_law_252 : decode cLw_law 252 = .ok (.iload 6, 2) := by decide +kernel
theorem dLw_law_254 : decode cLw_law 254 = .ok (.i2l, 1) := by decide +kernel
theorem dLw_law_255 : decode cLw_law 255 = .ok (.lcmp, 1) := by decide +kernel
theorem dLw_law_256 : decode cLw_law 256 = .ok (.ifCond .eq 5, 3) := by decide +kernel
theorem dLw_law_259 : decode cLw_law 259 = .ok (.iconst 0, 1) := by decide +kernel
theorem dLw_law_260 : decode cLw_law 260 = .ok (.ireturn, 1) := by decide +kernel
theorem dLw_law_261 : decode cLw_law 261 = .ok (.goto 461, 3) := by decide +kernel
theorem dLw_law_264 : decode cLw_law 264 = .ok (.aload_n 1, 1) := by decide +kernel
theorem dLw_law_265 : decode cLw_law 265 = .ok (.aload_n 0, 1) := by decide +kernel
theorem dLw_law_266 : decode cLw_law 266 = .ok (.iload 4, 2) := by decide +kernel
theorem dLw_law_268 : decode cLw_law 268 = .ok (.iconst 1, 1) := by decide +kernel
theorem dLw_law_269 : decode cLw_law 269 = .ok (.iadd, 1) := by decide +kernel
theorem dLw_law_270 : decode cLw_law 270 = .ok (.iaload, 1) := by decide +kernel
theorem dLw_law_271 : decode cLw_law 271 = .ok (.invokestatic 68, 3) := by decide +kernel
theorem dLw_law_274 : decode cLw_law 274 = .ok (.istore 5, 2) := by decide +kernel
theorem dLw_law_276 : decode cLw_law 276 = .ok (.aload_n 2, 1) := by decide +kernel
theorem dLw_law_277 : decode cLw_law 277 = .ok (.aload_n 0, 1) := by decide +kernel
theorem dLw_law_278 : decode cLw_law 278 = .ok (.iload 4, 2) := by decide +kernel
theorem dLw_law_280 : decode cLw_law 280 = .ok (.iconst 1, 1) := by decide +kernel
theorem dLw_law_281 : decode cLw_law 281 = .ok (.iadd, 1) := by decide +kernel
theorem dLw_law_282 : decode cLw_law 282 = .ok (.iaload, 1) := by decide +kernel
theorem dLw_law_283 : decode cLw_law 283 = .ok (.invokevirtual 71, 3) := by decide +kernel
theorem dLw_law_286 : decode cLw_law 286 = .ok (.aload_n 2, 1) := by decide +kernel
theorem dLw_law_287 : decode cLw_law 287 = .ok (.invokevirtual 60, 3) := by decide +kernel
theorem dLw_law_290 : decode cLw_law 290 = .ok (.iload 5, 2) := by decide +kernel
theorem dLw_law_292 : decode cLw_law 292 = .ok (.if_icmp .eq 5, 3) := by decide +kernel
theorem dLw_law_295 : decode cLw_law 295 = .ok (.iconst 0, 1) := by decide +kernel
theorem dLw_law_296 : decode cLw_law 296 = .ok (.ireturn, 1) := by decide +kernel
theorem dLw_law_297 : decode cLw_law 297 = .ok (.goto 425, 3) := by decide +kernel
theorem dLw_law_300 : decode cLw_law 300 = .ok (.aload_n 1, 1) := by decide +kernel
theorem dLw_law_301 : decode cLw_law 301 = .ok (.aload_n 0, 1) := by decide +kernel
theorem dLw_law_302 : decode cLw_law 302 = .ok (.iload 4, 2) := by decide +kernel
theorem dLw_law_304 : decode cLw_law 304 = .ok (.iconst 1, 1) := by decide +kernel
theorem dLw_law_305 : decode cLw_law 305 = .ok (.iadd, 1) := by decide +kernel
theorem dLw_law_306 : decode cLw_law 306 = .ok (.iaload, 1) := by decide +kernel
theorem dLw_law_307 : decode cLw_law 307 = .ok (.aload_n 3, 1) := by decide +kernel
theorem dLw_law_308 : decode cLw_law 308 = .ok (.invokestatic 72, 3) := by decide +kernel
theorem dLw_law_311 : decode cLw_law 311 = .ok (.istore 5, 2) := by decide +kernel
theorem dLw_law_313 : decode cLw_law 313 = .ok (.aload_n 2, 1) := by decide +kernel
theorem dLw_law_314 : decode cLw_law 314 = .ok (.aload_n 0, 1) := by decide +kernel
theorem dLw_law_315 : decode cLw_law 315 = .ok (.iload 4, 2) := by decide +kernel
theorem dLw_law_317 : decode cLw_law 317 = .ok (.iconst 1, 1) := by decide +kernel
theorem dLw_law_318 : decode cLw_law 318 = .ok (.iadd, 1) := by decide +kernel
theorem dLw_law_319 : decode cLw_law 319 = .ok (.iaload, 1) := by decide +kernel
theorem dLw_law_320 : decode cLw_law 320 = .ok (.invokevirtual 74, 3) := by decide +kernel
theorem dLw_law_323 : decode cLw_law 323 = .ok (.lstore 6, 2) := by decide +kernel
theorem dLw_law_325 : decode cLw_law 325 = .ok (.aload_n 2, 1) := by decide +kernel
theorem dLw_law_326 : decode cLw_law 326 = .ok (.invokevirtual 60, 3) := by decide +kernel
theorem dLw_law_329 : decode cLw_law 329 = .ok (.iload 5, 2) := by decide +kernel
theorem dLw_law_331 : decode cLw_law 331 = .ok (.if_icmp .eq 5, 3) := by decide +kernel
theorem dLw_law_334 : decode cLw_law 334 = .ok (.iconst 0, 1) := by decide +kernel
theorem dLw_law_335 : decode cLw_law 335 = .ok (.ireturn, 1) := by decide +kernel
theorem dLw_law_336 : decode cLw_law 336 = .ok (.iload 5, 2) := by decide +kernel
theorem dLw_law_338 : decode cLw_law 338 = .ok (.ifCond .ne 14, 3) := by decide +kernel
theorem dLw_law_341 : decode cLw_law 341 = .ok (.aload_n 3, 1) := by decide +kernel
theorem dLw_law_342 : decode cLw_law 342 = .ok (.iconst 0, 1) := by decide +kernel
theorem dLw_law_343 : decode cLw_law 343 = .ok (.laload, 1) := by decide +kernel
theorem dLw_law_344 : decode cLw_law 344 = .ok (.lload 6, 2) := by decide +kernel
theorem dLw_law_346 : decode cLw_law 346 = .ok (.lcmp, 1) := by decide +kernel
theorem dLw_law_347 : decode cLw_law 347 = .ok (.ifCond .eq 5, 3) := by decide +kernel
theorem dLw_law_350 : decode cLw_law 350 = .ok (.iconst 0, 1) := by decide +kernel
theorem dLw_law_351 : decode cLw_law 351 = .ok (.ireturn, 1) := by decide +kernel
theorem dLw_law_352 : decode cLw_law 352 = .ok (.goto 370, 3) := by decide +kernel
theorem dLw_law_355 : decode cLw_law 355 = .ok (.aload_n 1, 1) := by decide +kernel
theorem dLw_law_356 : decode cLw_law 356 = .ok (.aload_n 0, 1) := by decide +kernel
theorem dLw_law_357 : decode cLw_law 357 = .ok (.iload 4, 2) := by decide +kernel
theorem dLw_law_359 : decode cLw_law 359 = .ok (.iconst 1, 1) := by decide +kernel
theorem dLw_law_360 : decode cLw_law 360 = .ok (.iadd, 1) := by decide +kernel
theorem dLw_law_361 : decode cLw_law 361 = .ok (.iaload, 1) := by decide +kernel
theorem dLw_law_362 : decode cLw_law 362 = .ok (.aload_n 3, 1) := by decide +kernel
theorem dLw_law_363 : decode cLw_law 363 = .ok (.invokestatic 75, 3) := by decide +kernel
theorem dLw_law_366 : decode cLw_law 366 = .ok (.istore 5, 2) := by decide +kernel
theorem dLw_law_368 : decode cLw_law 368 = .ok (.aload_n 2, 1) := by decide +kernel
theorem dLw_law_369 : decode cLw_law 369 = .ok (.aload_n 0, 1) := by decide +kernel
theorem dLw_law_370 : decode cLw_law 370 = .ok (.iload 4, 2) := by decide +kernel
theorem dLw_law_372 : decode cLw_law 372 = .ok (.iconst 1, 1) := by decide +kernel
theorem dLw_law_373 : decode cLw_law 373 = .ok (.iadd, 1) := by decide +kernel
theorem dLw_law_374 : decode cLw_law 374 = .ok (.iaload, 1) := by decide +kernel
theorem dLw_law_375 : decode cLw_law 375 = .ok (.invokevirtual 77, 3) := by decide +kernel
theorem dLw_law_378 : decode cLw_law 378 = .ok (.istore 6, 2) := by decide +kernel
theorem dLw_law_380 : decode cLw_law 380 = .ok (.aload_n 2, 1) := by decide +kernel
theorem dLw_law_381 : decode cLw_law 381 = .ok (.invokevirtual 60, 3) := by decide +kernel
theorem dLw_law_384 : decode cLw_law 384 = .ok (.iload 5, 2) := by decide +kernel
theorem dLw_law_386 : decode cLw_law 386 = .ok (.if_icmp .eq 5, 3) := by decide +kernel
theorem dLw_law_389 : decode cLw_law 389 = .ok (.iconst 0, 1) := by decide +kernel
theorem dLw_law_390 : decode cLw_law 390 = .ok (.ireturn, 1) := by decide +kernel
theorem dLw_law_391 : decode cLw_law 391 = .ok (.iload 5, 2) := by decide +kernel
theorem dLw_law_393 : decode cLw_law 393 = .ok (.ifCond .ne 15, 3) := by decide +kernel
theorem dLw_law_396 : decode cLw_law 396 = .ok (.aload_n 3, 1) := by decide +kernel
theorem dLw_law_397 : decode cLw_law 397 = .ok (.iconst 0, 1) := by decide +kernel
theorem dLw_law_398 : decode cLw_law 398 = .ok (.laload, 1) := by decide +kernel
theorem dLw_law_399 : decode cLw_law 399 = .ok (.iload 6, 2) := by decide +kernel
theorem dLw_law_401 : decode cLw_law 401 = .ok (.i2l, 1) := by decide +kernel
theorem dLw_law_402 : decode cLw_law 402 = .ok (.lcmp, 1) := by decide +kernel
theorem dLw_law_403 : decode cLw_law 403 = .ok (.ifCond .eq 5, 3) := by decide +kernel
theorem dLw_law_406 : decode cLw_law 406 = .ok (.iconst 0, 1) := by decide +kernel
theorem dLw_law_407 : decode cLw_law 407 = .ok (.ireturn, 1) := by decide +kernel
theorem dLw_law_408 : decode cLw_law 408 = .ok (.goto 314, 3) := by decide +kernel
theorem dLw_law_411 : decode cLw_law 411 = .ok (.aload_n 1, 1) := by decide +kernel
theorem dLw_law_412 : decode cLw_law 412 = .ok (.invokevirtual 78, 3) := by decide +kernel
theorem dLw_law_415 : decode cLw_law 415 = .ok (.aload_n 2, 1) := by decide +kernel
theorem dLw_law_416 : decode cLw_law 416 = .ok (.invokevirtual 81, 3) := by decide +kernel
theorem dLw_law_419 : decode cLw_law 419 = .ok (.if_icmp .eq 303, 3) := by decide +kernel
theorem dLw_law_422 : decode cLw_law 422 = .ok (.iconst 0, 1) := by decide +kernel
theorem dLw_law_423 : decode cLw_law 423 = .ok (.ireturn, 1) := by decide +kernel
theorem dLw_law_424 : decode cLw_law 424 = .ok (.aload_n 1, 1) := by decide +kernel
theorem dLw_law_425 : decode cLw_law 425 = .ok (.invokevirtual 82, 3) := by decide +kernel
theorem dLw_law_428 : decode cLw_law 428 = .ok (.aload_n 2, 1) := by decide +kernel
theorem dLw_law_429 : decode cLw_law 429 = .ok (.invokevirtual 85, 3) := by decide +kernel
theorem dLw_law_432 : decode cLw_law 432 = .ok (.if_icmp .eq 290, 3) := by decide +kernel
theorem dLw_law_435 : decode cLw_law 435 = .ok (.iconst 0, 1) := by decide +kernel
theorem dLw_law_436 : decode cLw_law 436 = .ok (.ireturn, 1) := by decide +kernel
theorem dLw_law_437 : decode cLw_law 437 = .ok (.aload_n 1, 1) := by decide +kernel
theorem dLw_law_438 : decode cLw_law 438 = .ok (.aload_n 0, 1) := by decide +kernel
theorem dLw_law_439 : decode cLw_law 439 = .ok (.iload 4, 2) := by decide +kernel
theorem dLw_law_441 : decode cLw_law 441 = .ok (.iconst 1, 1) := by decide +kernel
theorem dLw_law_442 : decode cLw_law 442 = .ok (.iadd, 1) := by decide +kernel
theorem dLw_law_443 : decode cLw_law 443 = .ok (.iaload, 1) := by decide +kernel
theorem dLw_law_444 : decode cLw_law 444 = .ok (.aload_n 3, 1) := by decide +kernel
theorem dLw_law_445 : decode cLw_law 445 = .ok (.invokestatic 86, 3) := by decide +kernel
theorem dLw_law_448 : decode cLw_law 448 = .ok (.istore 5, 2) := by decide +kernel
theorem dLw_law_450 : decode cLw_law 450 = .ok (.aload_n 2, 1) := by decide +kernel
theorem dLw_law_451 : decode cLw_law 451 = .ok (.aload_n 0, 1) := by decide +kernel
theorem dLw_law_452 : decode cLw_law 452 = .ok (.iload 4, 2) := by decide +kernel
theorem dLw_law_454 : decode cLw_law 454 = .ok (.iconst 1, 1) := by decide +kernel
theorem dLw_law_455 : decode cLw_law 455 = .ok (.iadd, 1) := by decide +kernel
theorem dLw_law_456 : decode cLw_law 456 = .ok (.iaload, 1) := by decide +kernel
theorem dLw_law_457 : decode cLw_law 457 = .ok (.invokevirtual 88, 3) := by decide +kernel
theorem dLw_law_460 : decode cLw_law 460 = .ok (.istore 6, 2) := by decide +kernel
theorem dLw_law_462 : decode cLw_law 462 = .ok (.aload_n 2, 1) := by decide +kernel
theorem dLw_law_463 : decode cLw_law 463 = .ok (.invokevirtual 60, 3) := by decide +kernel
theorem dLw_law_466 : decode cLw_law 466 = .ok (.iload 5, 2) := by decide +kernel
theorem dLw_law_468 : decode cLw_law 468 = .ok (.if_icmp .eq 5, 3) := by decide +kernel
theorem dLw_law_471 : decode cLw_law 471 = .ok (.iconst 0, 1) := by decide +kernel
theorem dLw_law_472 : decode cLw_law 472 = .ok (.ireturn, 1) := by decide +kernel
theorem dLw_law_473 : decode cLw_law 473 = .ok (.iload 5, 2) := by decide +kernel
theorem dLw_law_475 : decode cLw_law 475 = .ok (.ifCond .ne 15, 3) := by decide +kernel
theorem dLw_law_478 : decode cLw_law 478 = .ok (.aload_n 3, 1) := by decide +kernel
theorem dLw_law_479 : decode cLw_law 479 = .ok (.iconst 0, 1) := by decide +kernel
theorem dLw_law_480 : decode cLw_law 480 = .ok (.laload, 1) := by decide +kernel
theorem dLw_law_481 : decode cLw_law 481 = .ok (.iload 6, 2) := by decide +kernel
theorem dLw_law_483 : decode cLw_law 483 = .ok (.i2l, 1) := by decide +kernel
theorem dLw_law_484 : decode cLw_law 484 = .ok (.lcmp, 1) := by decide +kernel
theorem dLw_law_485 : decode cLw_law 485 = .ok (.ifCond .eq 5, 3) := by decide +kernel
theorem dLw_law_488 : decode cLw_law 488 = .ok (.iconst 0, 1) := by decide +kernel
theorem dLw_law_489 : decode cLw_law 489 = .ok (.ireturn, 1) := by decide +kernel
theorem dLw_law_490 : decode cLw_law 490 = .ok (.goto 232, 3) := by decide +kernel
theorem dLw_law_493 : decode cLw_law 493 = .ok (.aload_n 1, 1) := by decide +kernel
theorem dLw_law_494 : decode cLw_law 494 = .ok (.aload_n 0, 1) := by decide +kernel
theorem dLw_law_495 : decode cLw_law 495 = .ok (.iload 4, 2) := by decide +kernel
theorem dLw_law_497 : decode cLw_law 497 = .ok (.iconst 1, 1) := by decide +kernel
theorem dLw_law_498 : decode cLw_law 498 = .ok (.iadd, 1) := by decide +kernel
theorem dLw_law_499 : decode cLw_law 499 = .ok (.iaload, 1) := by decide +kernel
theorem dLw_law_500 : decode cLw_law 500 = .ok (.aload_n 0, 1) := by decide +kernel
theorem dLw_law_501 : decode cLw_law 501 = .ok (.iload 4, 2) := by decide +kernel
theorem dLw_law_503 : decode cLw_law 503 = .ok (.iconst 2, 1) := by decide +kernel
theorem dLw_law_504 : decode cLw_law 504 = .ok (.iadd, 1) := by decide +kernel
theorem dLw_law_505 : decode cLw_law 505 = .ok (.iaload, 1) := by decide +kernel
theorem dLw_law_506 : decode cLw_law 506 = .ok (.aload_n 3, 1) := by decide +kernel
theorem dLw_law_507 : decode cLw_law 507 = .ok (.invokestatic 89, 3) := by decide +kernel
theorem dLw_law_510 : decode cLw_law 510 = .ok (.istore 5, 2) := by decide +kernel
theorem dLw_law_512 : decode cLw_law 512 = .ok (.aload_n 2, 1) := by decide +kernel
theorem dLw_law_513 : decode cLw_law 513 = .ok (.aload_n 0, 1) := by decide +kernel
theorem dLw_law_514 : decode cLw_law 514 = .ok (.iload 4, 2) := by decide +kernel
theorem dLw_law_516 : decode cLw_law 516 = .ok (.iconst 1, 1) := by decide +kernel
theorem dLw_law_517 : decode cLw_law 517 = .ok (.iadd, 1) := by decide +kernel
theorem dLw_law_518 : decode cLw_law 518 = .ok (.iaload, 1) := by decide +kernel
theorem dLw_law_519 : decode cLw_law 519 = .ok (.aload_n 0, 1) := by decide +kernel
theorem dLw_law_520 : decode cLw_law 520 = .ok (.iload 4, 2) := by decide +kernel
theorem dLw_law_522 : decode cLw_law 522 = .ok (.iconst 2, 1) := by decide +kernel
theorem dLw_law_523 : decode cLw_law 523 = .ok (.iadd, 1) := by decide +kernel
theorem dLw_law_524 : decode cLw_law 524 = .ok (.iaload, 1) := by decide +kernel
theorem dLw_law_525 : decode cLw_law 525 = .ok (.invokevirtual 92, 3) := by decide +kernel
theorem dLw_law_528 : decode cLw_law 528 = .ok (.istore 6, 2) := by decide +kernel
theorem dLw_law_530 : decode cLw_law 530 = .ok (.aload_n 2, 1) := by decide +kernel
theorem dLw_law_531 : decode cLw_law 531 = .ok (.invokevirtual 60, 3) := by decide +kernel
theorem dLw_law_534 : decode cLw_law 534 = .ok (.iload 5, 2) := by decide +kernel
theorem dLw_law_536 : decode cLw_law 536 = .ok (.if_icmp .eq 5, 3) := by decide +kernel
theorem dLw_law_539 : decode cLw_law 539 = .ok (.iconst 0, 1) := by decide +kernel
theorem dLw_law_540 : decode cLw_law 540 = .ok (.ireturn, 1) := by decide +kernel
theorem dLw_law_541 : decode cLw_law 541 = .ok (.iload 5, 2) := by decide +kernel
theorem dLw_law_543 : decode cLw_law 543 = .ok (.ifCond .ne 15, 3) := by decide +kernel
theorem dLw_law_546 : decode cLw_law 546 = .ok (.aload_n 3, 1) := by decide +kernel
theorem dLw_law_547 : decode cLw_law 547 = .ok (.iconst 0, 1) := by decide +kernel
theorem dLw_law_548 : decode cLw_law 548 = .ok (.laload, 1) := by decide +kernel
theorem dLw_law_549 : decode cLw_law 549 = .ok (.iload 6, 2) := by decide +kernel
theorem dLw_law_551 : decode cLw_law 551 = .ok (.i2l, 1) := by decide +kernel
theorem dLw_law_552 : decode cLw_law 552 = .ok (.lcmp, 1) := by decide +kernel
theorem dLw_law_553 : decode cLw_law 553 = .ok (.ifCond .eq 5, 3) := by decide +kernel
theorem dLw_law_556 : decode cLw_law 556 = .ok (.iconst 0, 1) := by decide +kernel
theorem dLw_law_557 : decode cLw_law 557 = .ok (.ireturn, 1) := by decide +kernel
theorem dLw_law_558 : decode cLw_law 558 = .ok (.goto 164, 3) := by decide +kernel
theorem dLw_law_561 : decode cLw_law 561 = .ok (.aload_n 1, 1) := by decide +kernel
theorem dLw_law_562 : decode cLw_law 562 = .ok (.aload_n 0, 1) := by decide +kernel
theorem dLw_law_563 : decode cLw_law 563 = .ok (.iload 4, 2) := by decide +kernel
theorem dLw_law_565 : decode cLw_law 565 = .ok (.iconst 1, 1) := by decide +kernel
theorem dLw_law_566 : decode cLw_law 566 = .ok (.iadd, 1) := by decide +kernel
theorem dLw_law_567 : decode cLw_law 567 = .ok (.iaload, 1) := by decide +kernel
theorem dLw_law_568 : decode cLw_law 568 = .ok (.aload_n 0, 1) := by decide +kernel
theorem dLw_law_569 : decode cLw_law 569 = .ok (.iload 4, 2) := by decide +kernel
theorem dLw_law_571 : decode cLw_law 571 = .ok (.iconst 2, 1) := by decide +kernel
theorem dLw_law_572 : decode cLw_law 572 = .ok (.iadd, 1) := by decide +kernel
theorem dLw_law_573 : decode cLw_law 573 = .ok (.iaload, 1) := by decide +kernel
theorem dLw_law_574 : decode cLw_law 574 = .ok (.aload_n 0, 1) := by decide +kernel
theorem dLw_law_575 : decode cLw_law 575 = .ok (.iload 4, 2) := by decide +kernel
theorem dLw_law_577 : decode cLw_law 577 = .ok (.iconst 3, 1) := by decide +kernel
theorem dLw_law_578 : decode cLw_law 578 = .ok (.iadd, 1) := by decide +kernel
theorem dLw_law_579 : decode cLw_law 579 = .ok (.iaload, 1) := by decide +kernel
theorem dLw_law_580 : decode cLw_law 580 = .ok (.aload_n 3, 1) := by decide +kernel
theorem dLw_law_581 : decode cLw_law 581 = .ok (.invokestatic 93, 3) := by decide +kernel
theorem dLw_law_584 : decode cLw_law 584 = .ok (.istore 5, 2) := by decide +kernel
theorem dLw_law_586 : decode cLw_law 586 = .ok (.aload_n 2, 1) := by decide +kernel
theorem dLw_law_587 : decode cLw_law 587 = .ok (.aload_n 0, 1) := by decide +kernel
theorem dLw_law_588 : decode cLw_law 588 = .ok (.iload 4, 2) := by decide +kernel
theorem dLw_law_590 : decode cLw_law 590 = .ok (.iconst 1, 1) := by decide +kernel
theorem dLw_law_591 : decode cLw_law 591 = .ok (.iadd, 1) := by decide +kernel
theorem dLw_law_592 : decode cLw_law 592 = .ok (.iaload, 1) := by decide +kernel
theorem dLw_law_593 : decode cLw_law 593 = .ok (.aload_n 0, 1) := by decide +kernel
theorem dLw_law_594 : decode cLw_law 594 = .ok (.iload 4, 2) := by decide +kernel
theorem dLw_law_596 : decode cLw_law 596 = .ok (.iconst 2, 1) := by decide +kernel
theorem dLw_law_597 : decode cLw_law 597 = .ok (.iadd, 1) := by decide +kernel
theorem dLw_law_598 : decode cLw_law 598 = .ok (.iaload, 1) := by decide +kernel
theorem dLw_law_599 : decode cLw_law 599 = .ok (.aload_n 0, 1) := by decide +kernel
theorem dLw_law_600 : decode cLw_law 600 = .ok (.iload 4, 2) := by decide +kernel
theorem dLw_law_602 : decode cLw_law 602 = .ok (.iconst 3, 1) := by decide +kernel
theorem dLw_law_603 : decode cLw_law 603 = .ok (.iadd, 1) := by decide +kernel
theorem dLw_law_604 : decode cLw_law 604 = .ok (.iaload, 1) := by decide +kernel
theorem dLw_law_605 : decode cLw_law 605 = .ok (.invokevirtual 96, 3) := by decide +kernel
theorem dLw_law_608 : decode cLw_law 608 = .ok (.istore 6, 2) := by decide +kernel
theorem dLw_law_610 : decode cLw_law 610 = .ok (.aload_n 2, 1) := by decide +kernel
theorem dLw_law_611 : decode cLw_law 611 = .ok (.invokevirtual 60, 3) := by decide +kernel
theorem dLw_law_614 : decode cLw_law 614 = .ok (.iload 5, 2) := by decide +kernel
theorem dLw_law_616 : decode cLw_law 616 = .ok (.if_icmp .eq 5, 3) := by decide +kernel
theorem dLw_law_619 : decode cLw_law 619 = .ok (.iconst 0, 1) := by decide +kernel
theorem dLw_law_620 : decode cLw_law 620 = .ok (.ireturn, 1) := by decide +kernel
theorem dLw_law_621 : decode cLw_law 621 = .ok (.iload 5, 2) := by decide +kernel
theorem dLw_law_623 : decode cLw_law 623 = .ok (.ifCond .ne 15, 3) := by decide +kernel
theorem dLw_law_626 : decode cLw_law 626 = .ok (.aload_n 3, 1) := by decide +kernel
theorem dLw_law_627 : decode cLw_law 627 = .ok (.iconst 0, 1) := by decide +kernel
theorem dLw_law_628 : decode cLw_law 628 = .ok (.laload, 1) := by decide +kernel
theorem dLw_law_629 : decode cLw_law 629 = .ok (.iload 6, 2) := by decide +kernel
theorem dLw_law_631 : decode cLw_law 631 = .ok (.i2l, 1) := by decide +kernel
theorem dLw_law_632 : decode cLw_law 632 = .ok (.lcmp, 1) := by decide +kernel
theorem dLw_law_633 : decode cLw_law 633 = .ok (.ifCond .eq 5, 3) := by decide +kernel
theorem dLw_law_636 : decode cLw_law 636 = .ok (.iconst 0, 1) := by decide +kernel
theorem dLw_law_637 : decode cLw_law 637 = .ok (.ireturn, 1) := by decide +kernel
theorem dLw_law_638 : decode cLw_law 638 = .ok (.goto 84, 3) := by decide +kernel
theorem dLw_law_641 : decode cLw_law 641 = .ok (.aload_n 1, 1) := by decide +kernel
theorem dLw_law_642 : decode cLw_law 642 = .ok (.aload_n 0, 1) := by decide +kernel
theorem dLw_law_643 : decode cLw_law 643 = .ok (.iload 4, 2) := by decide +kernel
theorem dLw_law_645 : decode cLw_law 645 = .ok (.iconst 1, 1) := by decide +kernel
theorem dLw_law_646 : decode cLw_law 646 = .ok (.iadd, 1) := by decide +kernel
theorem dLw_law_647 : decode cLw_law 647 = .ok (.iaload, 1) := by decide +kernel
theorem dLw_law_648 : decode cLw_law 648 = .ok (.aload_n 3, 1) := by decide +kernel
theorem dLw_law_649 : decode cLw_law 649 = .ok (.invokestatic 97, 3) := by decide +kernel
theorem dLw_law_652 : decode cLw_law 652 = .ok (.istore 5, 2) := by decide +kernel
theorem dLw_law_654 : decode cLw_law 654 = .ok (.aload_n 2, 1) := by decide +kernel
theorem dLw_law_655 : decode cLw_law 655 = .ok (.aload_n 0, 1) := by decide +kernel
theorem dLw_law_656 : decode cLw_law 656 = .ok (.iload 4, 2) := by decide +kernel
theorem dLw_law_658 : decode cLw_law 658 = .ok (.iconst 1, 1) := by decide +kernel
theorem dLw_law_659 : decode cLw_law 659 = .ok (.iadd, 1) := by decide +kernel
theorem dLw_law_660 : decode cLw_law 660 = .ok (.iaload, 1) := by decide +kernel
theorem dLw_law_661 : decode cLw_law 661 = .ok (.invokevirtual 99, 3) := by decide +kernel
theorem dLw_law_664 : decode cLw_law 664 = .ok (.istore 6, 2) := by decide +kernel
theorem dLw_law_666 : decode cLw_law 666 = .ok (.aload_n 2, 1) := by decide +kernel
theorem dLw_law_667 : decode cLw_law 667 = .ok (.invokevirtual 60, 3) := by decide +kernel
theorem dLw_law_670 : decode cLw_law 670 = .ok (.iload 5, 2) := by decide +kernel
theorem dLw_law_672 : decode cLw_law 672 = .ok (.if_icmp .eq 5, 3) := by decide +kernel
theorem dLw_law_675 : decode cLw_law 675 = .ok (.iconst 0, 1) := by decide +kernel
theorem dLw_law_676 : decode cLw_law 676 = .ok (.ireturn, 1) := by decide +kernel
theorem dLw_law_677 : decode cLw_law 677 = .ok (.iload 5, 2) := by decide +kernel
theorem dLw_law_679 : decode cLw_law 679 = .ok (.ifCond .ne 15, 3) := by decide +kernel
theorem dLw_law_682 : decode cLw_law 682 = .ok (.aload_n 3, 1) := by decide +kernel
theorem dLw_law_683 : decode cLw_law 683 = .ok (.iconst 0, 1) := by decide +kernel
theorem dLw_law_684 : decode cLw_law 684 = .ok (.laload, 1) := by decide +kernel
theorem dLw_law_685 : decode cLw_law 685 = .ok (.iload 6, 2) := by decide +kernel
theorem dLw_law_687 : decode cLw_law 687 = .ok (.i2l, 1) := by decide +kernel
theorem dLw_law_688 : decode cLw_law 688 = .ok (.lcmp, 1) := by decide +kernel
theorem dLw_law_689 : decode cLw_law 689 = .ok (.ifCond .eq 5, 3) := by decide +kernel
theorem dLw_law_692 : decode cLw_law 692 = .ok (.iconst 0, 1) := by decide +kernel
theorem dLw_law_693 : decode cLw_law 693 = .ok (.ireturn, 1) := by decide +kernel
theorem dLw_law_694 : decode cLw_law 694 = .ok (.goto 28, 3) := by decide +kernel
theorem dLw_law_697 : decode cLw_law 697 = .ok (.aload_n 1, 1) := by decide +kernel
theorem dLw_law_698 : decode cLw_law 698 = .ok (.aload_n 0, 1) := by decide +kernel
theorem dLw_law_699 : decode cLw_law 699 = .ok (.iload 4, 2) := by decide +kernel
theorem dLw_law_701 : decode cLw_law 701 = .ok (.iconst 1, 1) := by decide +kernel
theorem dLw_law_702 : decode cLw_law 702 = .ok (.iadd, 1) := by decide +kernel
theorem dLw_law_703 : decode cLw_law 703 = .ok (.iaload, 1) := by decide +kernel
theorem dLw_law_704 : decode cLw_law 704 = .ok (.invokevirtual 100, 3) := by decide +kernel
theorem dLw_law_707 : decode cLw_law 707 = .ok (.aload_n 2, 1) := by decide +kernel
theorem dLw_law_708 : decode cLw_law 708 = .ok (.aload_n 0, 1) := by decide +kernel
theorem dLw_law_709 : decode cLw_law 709 = .ok (.iload 4, 2) := by decide +kernel
theorem dLw_law_711 : decode cLw_law 711 = .ok (.iconst 1, 1) := by decide +kernel
theorem dLw_law_712 : decode cLw_law 712 = .ok (.iadd, 1) := by decide +kernel
theorem dLw_law_713 : decode cLw_law 713 = .ok (.iaload, 1) := by decide +kernel
theorem dLw_law_714 : decode cLw_law 714 = .ok (.invokevirtual 103, 3) := by decide +kernel
theorem dLw_law_717 : decode cLw_law 717 = .ok (.if_icmp .eq 5, 3) := by decide +kernel
theorem dLw_law_720 : decode cLw_law 720 = .ok (.iconst 0, 1) := by decide +kernel
theorem dLw_law_721 : decode cLw_law 721 = .ok (.ireturn, 1) := by decide +kernel
theorem dLw_law_722 : decode cLw_law 722 = .ok (.iinc 4 6, 3) := by decide +kernel
theorem dLw_law_725 : decode cLw_law 725 = .ok (.goto (-702), 3) := by decide +kernel
theorem dLw_law_728 : decode cLw_law 728 = .ok (.iconst 1, 1) := by decide +kernel
theorem dLw_law_729 : decode cLw_law 729 = .ok (.ireturn, 1) := by decide +kernel
theorem dLw_more_0 : decode cLw_more 0 = .ok (.aload_n 2, 1) := by decide +kernel
theorem dLw_more_1 : decode cLw_more 1 = .ok (.iconst 0, 1) := by decide +kernel
theorem dLw_more_2 : decode cLw_more 2 = .ok (.aload_n 0, 1) := by decide +kernel
theorem dLw_more_3 : decode cLw_more 3 = .ok (.iload_n 1, 1) := by decide +kernel
theorem dLw_more_4 : decode cLw_more 4 = .ok (.invokevirtual 27, 3) := by decide +kernel
theorem dLw_more_7 : decode cLw_more 7 = .ok (.lastore, 1) := by decide +kernel
theorem dLw_more_8 : decode cLw_more 8 = .ok (.goto 6, 3) := by decide +kernel
theorem dLw_more_11 : decode cLw_more 11 = .ok (.astore_n 3, 1) := by decide +kernel
theorem dLw_more_12 : decode cLw_more 12 = .ok (.iconst 1, 1) := by decide +kernel
theorem dLw_more_13 : decode cLw_more 13 = .ok (.ireturn, 1) := by decide +kernel
theorem dLw_more_14 : decode cLw_more 14 = .ok (.iconst 0, 1) := by decide +kernel
theorem dLw_more_15 : decode cLw_more 15 = .ok (.ireturn, 1) := by decide +kernel
theorem dLw_peek_0 : decode cLw_peek 0 = .ok (.aload_n 2, 1) := by decide +kernel
theorem dLw_peek_1 : decode cLw_peek 1 = .ok (.iconst 0, 1) := by decide +kernel
theorem dLw_peek_2 : decode cLw_peek 2 = .ok (.aload_n 0, 1) := by decide +kernel
theorem dLw_peek_3 : decode cLw_peek 3 = .ok (.iload_n 1, 1) := by decide +kernel
theorem dLw_peek_4 : decode cLw_peek 4 = .ok (.invokevirtual 31, 3) := by decide +kernel
theorem dLw_peek_7 : decode cLw_peek 7 = .ok (.i2l, 1) := by decide +kernel
theorem dLw_peek_8 : decode cLw_peek 8 = .ok (.lastore, 1) := by decide +kernel
theorem dLw_peek_9 : decode cLw_peek 9 = .ok (.goto 6, 3) := by decide +kernel
theorem dLw_peek_12 : decode cLw_peek 12 = .ok (.astore_n 3, 1) := by decide +kernel
theorem dLw_peek_13 : decode cLw_peek 13 = .ok (.iconst 1, 1) := by decide +kernel
theorem dLw_peek_14 : decode cLw_peek 14 = .ok (.ireturn, 1) := by decide +kernel
theorem dLw_peek_15 : decode cLw_peek 15 = .ok (.iconst 0, 1) := by decide +kernel
theorem dLw_peek_16 : decode cLw_peek 16 = .ok (.ireturn, 1) := by decide +kernel
theorem dLw_restart_0 : decode cLw_restart 0 = .ok (.aload_n 0, 1) := by decide +kernel
theorem dLw_restart_1 : decode cLw_restart 1 = .ok (.iload_n 1, 1) := by decide +kernel
theorem dLw_restart_2 : decode cLw_restart 2 = .ok (.invokevirtual 21, 3) := by decide +kernel
theorem dLw_restart_5 : decode cLw_restart 5 = .ok (.goto 6, 3) := by decide +kernel
theorem dLw_restart_8 : decode cLw_restart 8 = .ok (.astore_n 2, 1) := by decide +kernel
theorem dLw_restart_9 : decode cLw_restart 9 = .ok (.iconst 1, 1) := by decide +kernel
theorem dLw_restart_10 : decode cLw_restart 10 = .ok (.ireturn, 1) := by decide +kernel
theorem dLw_restart_11 : decode cLw_restart 11 = .ok (.iconst 0, 1) := by decide +kernel
theorem dLw_restart_12 : decode cLw_restart 12 = .ok (.ireturn, 1) := by decide +kernel
theorem dLw_result_0 : decode cLw_result 0 = .ok (.aload_n 2, 1) := by decide +kernel
theorem dLw_result_1 : decode cLw_result 1 = .ok (.iconst 0, 1) := by decide +kernel
theorem dLw_result_2 : decode cLw_result 2 = .ok (.aload_n 0, 1) := by decide +kernel
theorem dLw_result_3 : decode cLw_result 3 = .ok (.iload_n 1, 1) := by decide +kernel
theorem dLw_result_4 : decode cLw_result 4 = .ok (.invokevirtual 45, 3) := by decide +kernel
theorem dLw_result_7 : decode cLw_result 7 = .ok (.i2l, 1) := by decide +kernel
theorem dLw_result_8 : decode cLw_result 8 = .ok (.lastore, 1) := by decide +kernel
theorem dLw_result_9 : decode cLw_result 9 = .ok (.goto 6, 3) := by decide +kernel
theorem dLw_result_12 : decode cLw_result 12 = .ok (.astore_n 3, 1) := by decide +kernel
theorem dLw_result_13 : decode cLw_result 13 = .ok (.iconst 1, 1) := by decide +kernel
theorem dLw_result_14 : decode cLw_result 14 = .ok (.ireturn, 1) := by decide +kernel
theorem dLw_result_15 : decode cLw_result 15 = .ok (.iconst 0, 1) := by decide +kernel
theorem dLw_result_16 : decode cLw_result 16 = .ok (.ireturn, 1) := by decide +kernel
