theorem dH_min_0 : decode cH_min 0 = .ok (.iload_n 0, 1) := by decide +kernel
theorem dH_min_1 : decode cH_min 1 = .ok (.iload_n 1, 1) := by decide +kernel
theorem dH_min_2 : decode cH_min 2 = .ok (.if_icmp .gt 7, 3) := by decide +kernel
theorem dH_min_5 : decode cH_min 5 = .ok (.iload_n 0, 1) := by decide +kernel
theorem dH_min_6 : decode cH_min 6 = .ok (.goto 4, 3) := by decide +kernel
theorem dH_min_9 : decode cH_min 9 = .ok (.iload_n 1, 1) := by decide +kernel
theorem dH_min_10 : decode cH_min 10 = .ok (.ireturn, 1) := by decide +kernel
theorem dJ_bitCount_0 : decode cJ_bitCount 0 = .ok (.lload_n 0, 1) := by decide +kernel
theorem dJ_bitCount_1 : decode cJ_bitCount 1 = .ok (.lload_n 0, 1) := by decide +kernel
theorem dJ_bitCount_2 : decode cJ_bitCount 2 = .ok (.iconst 1, 1) := by decide +kernel
theorem dJ_bitCount_3 : decode cJ_bitCount 3 = .ok (.lushr, 1) := by decide +kernel
theorem dJ_bitCount_4 : decode cJ_bitCount 4 = .ok (.ldc2_w 314, 3) := by decide +kernel
theorem dJ_bitCount_7 : decode cJ_bitCount 7 = .ok (.land, 1) := by decide +kernel
theorem dJ_bitCount_8 : decode cJ_bitCount 8 = .ok (.lsub, 1) := by decide +kernel
theorem dJ_bitCount_9 : decode cJ_bitCount 9 = .ok (.lstore_n 0, 1) := by decide +kernel
theorem dJ_bitCount_10 : decode cJ_bitCount 10 = .ok (.lload_n 0, 1) := by decide +kernel
theorem dJ_bitCount_11 : decode cJ_bitCount 11 = .ok (.ldc2_w 316, 3) := by decide +kernel
theorem dJ_bitCount_14 : decode cJ_bitCount 14 = .ok (.land, 1) := by decide +kernel
theorem dJ_bitCount_15 : decode cJ_bitCount 15 = .ok (.lload_n 0, 1) := by decide +kernel
theorem dJ_bitCount_16 : decode cJ_bitCount 16 = .ok (.iconst 2, 1) := by decide +kernel
theorem dJ_bitCount_17 : decode cJ_bitCount 17 = .ok (.lushr, 1) := by decide +kernel
theorem dJ_bitCount_18 : decode cJ_bitCount 18 = .ok (.ldc2_w 316, 3) := by decide +kernel
theorem dJ_bitCount_21 : decode cJ_bitCount 21 = .ok (.land, 1) := by decide +kernel
theorem dJ_bitCount_22 : decode cJ_bitCount 22 = .ok (.ladd, 1) := by decide +kernel
theorem dJ_bitCount_23 : decode cJ_bitCount 23 = .ok (.lstore_n 0, 1) := by decide +kernel
theorem dJ_bitCount_24 : decode cJ_bitCount 24 = .ok (.lload_n 0, 1) := by decide +kernel
theorem dJ_bitCount_25 : decode cJ_bitCount 25 = .ok (.lload_n 0, 1) := by decide +kernel
theorem dJ_bitCount_26 : decode cJ_bitCount 26 = .ok (.iconst 4, 1) := by decide +kernel
theorem dJ_bitCount_27 : decode cJ_bitCount 27 = .ok (.lushr, 1) := by decide +kernel
theorem dJ_bitCount_28 : decode cJ_bitCount 28 = .ok (.ladd, 1) := by decide +kernel
theorem dJ_bitCount_29 : decode cJ_bitCount 29 = .ok (.ldc2_w 318, 3) := by decide +kernel
theorem dJ_bitCount_32 : decode cJ_bitCount 32 = .ok (.land, 1) := by decide +kernel
theorem dJ_bitCount_33 : decode cJ_bitCount 33 = .ok (.lstore_n 0, 1) := by decide +kernel
theorem dJ_bitCount_34 : decode cJ_bitCount 34 = .ok (.lload_n 0, 1) := by decide +kernel
theorem dJ_bitCount_35 : decode cJ_bitCount 35 = .ok (.lload_n 0, 1) := by decide +kernel
theorem dJ_bitCount_36 : decode cJ_bitCount 36 = .ok (.bipush 8, 2) := by decide +kernel
theorem dJ_bitCount_38 : decode cJ_bitCount 38 = .ok (.lushr, 1) := by decide +kernel
theorem dJ_bitCount_39 : decode cJ_bitCount 39 = .ok (.ladd, 1) := by decide +kernel
theorem dJ_bitCount_40 : decode cJ_bitCount 40 = .ok (.lstore_n 0, 1) := by decide +kernel
theorem dJ_bitCount_41 : decode cJ_bitCount 41 = .ok (.lload_n 0, 1) := by decide +kernel
theorem dJ_bitCount_42 : decode cJ_bitCount 42 = .ok (.lload_n 0, 1) := by decide +kernel
theorem dJ_bitCount_43 : decode cJ_bitCount 43 = .ok (.bipush 16, 2) := by decide +kernel
theorem dJ_bitCount_45 : decode cJ_bitCount 45 = .ok (.lushr, 1) := by decide +kernel
theorem dJ_bitCount_46 : decode cJ_bitCount 46 = .ok (.ladd, 1) := by decide +kernel
theorem dJ_bitCount_47 : decode cJ_bitCount 47 = .ok (.lstore_n 0, 1) := by decide +kernel
theorem dJ_bitCount_48 : decode cJ_bitCount 48 = .ok (.lload_n 0, 1) := by decide +kernel
theorem dJ_bitCount_49 : decode cJ_bitCount 49 = .ok (.lload_n 0, 1) := by decide +kernel
theorem dJ_bitCount_50 : decode cJ_bitCount 50 = .ok (.bipush 32, 2) := by decide +kernel
theorem dJ_bitCount_52 : decode cJ_bitCount 52 = .ok (.lushr, 1) := by decide +kernel
theorem dJ_bitCount_53 : decode cJ_bitCount 53 = .ok (.ladd, 1) := by decide +kernel
theorem dJ_bitCount_54 : decode cJ_bitCount 54 = .ok (.lstore_n 0, 1) := by decide +kernel
theorem dJ_bitCount_55 : decode cJ_bitCount 55 = .ok (.lload_n 0, 1) := by decide +kernel
theorem dJ_bitCount_56 : decode cJ_bitCount 56 = .ok (.l2i, 1) := by decide +kernel
theorem dJ_bitCount_57 : decode cJ_bitCount 57 = .ok (.bipush 127, 2) := by decide +kernel
theorem dJ_bitCount_59 : decode cJ_bitCount 59 = .ok (.iand, 1) := by decide +kernel
theorem dJ_bitCount_60 : decode cJ_bitCount 60 = .ok (.ireturn, 1) := by decide +kernel
theorem dL_assume_0 : decode cL_assume 0 = .ok (.aload_n 2, 1) := by decide +kernel
theorem dL_assume_1 : decode cL_assume 1 = .ok (.iconst 0, 1) := by decide +kernel
theorem dL_assume_2 : decode cL_assume 2 = .ok (.aload_n 0, 1) := by decide +kernel
theorem dL_assume_3 : decode cL_assume 3 = .ok (.iload_n 1, 1) := by decide +kernel
theorem dL_assume_4 : decode cL_assume 4 = .ok (.invokevirtual 24, 3) := by decide +kernel
theorem dL_assume_7 : decode cL_assume 7 = .ok (.i2l, 1) := by decide +kernel
theorem dL_assume_8 : decode cL_assume 8 = .ok (.lastore, 1) := by decide +kernel
theorem dL_assume_9 : decode cL_assume 9 = .ok (.goto 9, 3) := by decide +kernel
theorem dL_assume_12 : decode cL_assume 12 = .ok (.astore_n 3, 1) := by decide +kernel
theorem dL_assume_13 : decode cL_assume 13 = .ok (.iconst 1, 1) := by decide +kernel
theorem dL_assume_14 : decode cL_assume 14 = .ok (.ireturn, 1) := by decide +kernel
theorem dL_assume_15 : decode cL_assume 15 = .ok (.astore_n 3, 1) := by decide +kernel
theorem dL_assume_16 : decode cL_assume 16 = .ok (.iconst 2, 1) := by decide +kernel
theorem dL_assume_17 : decode cL_assume 17 = .ok (.ireturn, 1) := by decide +kernel
theorem dL_assume_18 : decode cL_assume 18 = .ok (.iconst 0, 1) := by decide +kernel
theorem dL_assume_19 : decode cL_assume 19 = .ok (.ireturn, 1) := by decide +kernel
theorem dL_close_0 : decode cL_close 0 = .ok (.aload_n 1, 1) := by decide +kernel
theorem dL_close_1 : decode cL_close 1 = .ok (.iconst 0, 1) := by decide +kernel
theorem dL_close_2 : decode cL_close 2 = .ok (.aload_n 0, 1) := by decide +kernel
theorem dL_close_3 : decode cL_close 3 = .ok (.invokevirtual 21, 3) := by decide +kernel
theorem dL_close_6 : decode cL_close 6 = .ok (.i2l, 1) := by decide +kernel
theorem dL_close_7 : decode cL_close 7 = .ok (.lastore, 1) := by decide +kernel
theorem dL_close_8 : decode cL_close 8 = .ok (.goto 6, 3) := by decide +kernel
theorem dL_close_11 : decode cL_close 11 = .ok (.astore_n 2, 1) := by decide +kernel
theorem dL_close_12 : decode cL_close 12 = .ok (.iconst 1, 1) := by decide +kernel
theorem dL_close_13 : decode cL_close 13 = .ok (.ireturn, 1) := by decide +kernel
theorem dL_close_14 : decode cL_close 14 = .ok (.iconst 0, 1) := by decide +kernel
theorem dL_close_15 : decode cL_close 15 = .ok (.ireturn, 1) := by decide +kernel
theorem dL_law_0 : decode cL_law 0 = .ok (.new 8, 3) := by decide +kernel
theorem dL_law_3 : decode cL_law 3 = .ok (.dup, 1) := by decide +kernel
theorem dL_law_4 : decode cL_law 4 = .ok (.invokespecial 39, 3) := by decide +kernel
theorem dL_law_7 : decode cL_law 7 = .ok (.astore_n 1, 1) := by decide +kernel
theorem dL_law_8 : decode cL_law 8 = .ok (.new 40, 3) := by decide +kernel
theorem dL_law_11 : decode cL_law 11 = .ok (.dup, 1) := by decide +kernel
theorem dL_law_12 : decode cL_law 12 = .ok (.invokespecial 42, 3) := by decide +kernel
theorem dL_law_15 : decode cL_law 15 = .ok (.astore_n 2, 1) := by decide +kernel
theorem dL_law_16 : decode cL_law 16 = .ok (.iconst 1, 1) := by decide +kernel
theorem dL_law_17 : decode cL_law 17 = .ok (.newarray .long, 2) := by decide +kernel
theorem dL_law_19 : decode cL_law 19 = .ok (.astore_n 3, 1) := by decide +kernel
theorem dL_law_20 : decode cL_law 20 = .ok (.iconst 0, 1) := by decide +kernel
theorem dL_law_21 : decode cL_law 21 = .ok (.istore 4, 2) := by decide +kernel
theorem dL_law_23 : decode cL_law 23 = .ok (.iload 4, 2) := by decide +kernel
theorem dL_law_25 : decode cL_law 25 = .ok (.aload_n 0, 1) := by decide +kernel
theorem dL_law_26 : decode cL_law 26 = .ok (.arraylength, 1) := by decide +kernel
theorem dL_law_27 : decode cL_law 27 = .ok (.iconst 3, 1) := by decide +kernel
theorem dL_law_28 : decode cL_law 28 = .ok (.isub, 1) := by decide +kernel
theorem dL_law_29 : decode cL_law 29 = .ok (.if_icmp .gt 520, 3) := by decide +kernel
theorem dL_law_32 : decode cL_law 32 = .ok (.aload_n 0, 1) := by decide +kernel
theorem dL_law_33 : decode cL_law 33 = .ok (.iload 4, 2) := by decide +kernel
theorem dL_law_35 : decode cL_law 35 = .ok (.iaload, 1) := by decide +kernel
theorem dL_law_36 : decode cL_law 36 = .ok (.bipush 15, 2) := by decide +kernel
theorem dL_law_38 : decode cL_law 38 = .ok (.iand, 1) := by decide +kernel
theorem dL_law_39 : decode cL_law 39 = .ok (.tableswitch 504 0 11 #[61, 105, 161, 205, 261, 274, 287, 343, 399, 467, 480, 493], 61) := by decide +kernel
theorem dL_law_100 : decode cL_law 100 = .ok (.aload_n 1, 1) := by decide +kernel
theorem dL_law_101 : decode cL_law 101 = .ok (.aload_n 3, 1) := by decide +kernel
theorem dL_law_102 : decode cL_law 102 = .ok (.invokestatic 43, 3) := by decide +kernel
theorem dL_law_105 : decode cL_law 105 = .ok (.istore 5, 2) := by decide +kernel
theorem dL_law_107 : decode cL_law 107 = .ok (.aload_n 2, 1) := by decide +kernel
theorem dL_law_108 : decode cL_law 108 = .ok (.invokevirtual 48, 3) := by decide +kernel
theorem dL_law_111 : decode cL_law 111 = .ok (.istore 6, 2) := by decide +kernel
theorem dL_law_113 : decode cL_law 113 = .ok (.aload_n 2, 1) := by decide +kernel
theorem dL_law_114 : decode cL_law 114 = .ok (.invokevirtual 49, 3) := by decide +kernel
theorem dL_law_117 : decode cL_law 117 = .ok (.iload 5, 2) := by decide +kernel
theorem dL_law_119 : decode cL_law 119 = .ok (.if_icmp .eq 5, 3) := by decide +kernel
theorem dL_law_122 : decode cL_law 122 = .ok (.iconst 0, 1) := by decide +kernel
theorem dL_law_123 : decode cL_law 123 = .ok (.ireturn, 1) := by decide +kernel
theorem dL_law_124 : decode cL_law 124 = .ok (.iload 5, 2) := by decide +kernel
theorem dL_law_126 : decode cL_law 126 = .ok (.ifCond .ne 15, 3) := by decide +kernel
theorem dL_law_129 : decode cL_law 129 = .ok (.aload_n 3, 1) := by decide +kernel
theorem dL_law_130 : decode cL_law 130 = .ok (.iconst 0, 1) := by decide +kernel
theorem dL_law_131 : decode cL_law 131 = .ok (.laload, 1) := by decide +kernel
theorem dL_law_132 : decode cL_law 132 = .ok (.iload 6, 2) := by decide +kernel
theorem dL_law_134 : decode cL_law 134 = .ok (.i2l, 1) := by decide +kernel
theorem dL_law_135 : decode cL_law 135 = .ok (.lcmp, 1) := by decide +kernel
theorem dL_law_136 : decode cL_law 136 = .ok (.ifCond .eq 5, 3) := by decide +kernel
theorem dL_law_139 : decode cL_law 139 = .ok (.iconst 0, 1) := by decide +kernel
theorem dL_law_140 : decode cL_law 140 = .ok (.ireturn, 1) := by decide +kernel
theorem dL_law_141 : decode cL_law 141 = .ok (.goto 402, 3) := by decide +kernel
theorem dL_law_144 : decode cL_law 144 = .ok (.aload_n 1, 1) := by decide +kernel
theorem dL_law_145 : decode cL_law 145 = .ok (.aload_n 0, 1) := by decide +kernel
theorem dL_law_146 : decode cL_law 146 = .ok (.iload 4, 2) := by decide +kernel
theorem dL_law_148 : decode cL_law 148 = .ok (.iconst 1, 1) := by decide +kernel
theorem dL_law_149 : decode cL_law 149 = .ok (.iadd, 1) := by decide +kernel
theorem dL_law_150 : decode cL_law 150 = .ok (.iaload, 1) := by decide +kernel
theorem dL_law_151 : decode cL_law 151 = .ok (.aload_n 3, 1) := by decide +kernel
theorem dL_law_152 : decode cL_law 152 = .ok (.invokestatic 52, 3) := by decide +kernel
theorem dL_law_155 : decode cL_law 155 = .ok (.istore 5, 2) := by decide +kernel
theorem dL_law_157 : decode cL_law 157 = .ok (.aload_n 2, 1) := by decide +kernel
theorem dL_law_158 : decode cL_law 158 = .ok (.aload_n 0, 1) := by decide +kernel
theorem dL_law_159 : decode cL_law 159 = .ok (.iload 4, 2) := by decide +kernel
theorem dL_law_161 : decode cL_law 161 = .ok (.iconst 1, 1) := by decide +kernel
theorem dL_law_162 : decode cL_law 162 = .ok (.iadd, 1) := by decide +kernel
theorem dL_law_163 : decode cL_law 163 = .ok (.iaload, 1) := by decide +kernel
theorem dL_law_164 : decode cL_law 164 = .ok (.invokevirtual 55, 3) := by decide +kernel
theorem dL_law_167 : decode cL_law 167 = .ok (.istore 6, 2) := by decide +kernel
theorem dL_law_169 : decode cL_law 169 = .ok (.aload_n 2, 1) := by decide +kernel
theorem dL_law_170 : decode cL_law 170 = .ok (.invokevirtual 49, 3) := by decide +kernel
theorem dL_law_173 : decode cL_law 173 = .ok (.iload 5, 2) := by decide +kernel
theorem dL_law_175 : decode cL_law 175 = .ok (.if_icmp .eq 5, 3) := by decide +kernel
theorem dL_law_178 : decode cL_law 178 = .ok (.iconst 0, 1) := by decide +kernel
theorem dL_law_179 : decode cL_law 179 = .ok (.ireturn, 1) := by decide +kernel
theorem dL_law_180 : decode cL_law 180 = .ok (.iload 5, 2) := by decide +kernel
theorem dL_law_182 : decode cL_law 182 = .ok (.ifCond .ne 15, 3) := by decide +kernel
theorem dL_law_185 : decode cL_law 185 = .ok (.aload_n 3, 1) := by decide +kernel
theorem dL_law_186 : decode cL_law 186 = .ok (.iconst 0, 1) := by decide +kernel
theorem dL_law_187 : decode cL_law 187 = .ok (.laload, 1) := by decide +kernel
theorem dL_law_188 : decode cL_law 188 = .ok (.iload 6, 2) := by decide +kernel
theorem dL_law_190 : decode cL_law 190 = .ok (.i2l, 1) := by decide +kernel
theorem dL_law_191 : decode cL_law 191 = .ok (.lcmp, 1) := by decide +kernel
theorem dL_law_192 : decode cL_law 192 = .ok (.ifCond .eq 5, 3) := by decide +kernel
theorem dL_law_195 : decode cL_law 195 = .ok (.iconst 0, 1) := by decide +kernel
theorem dL_law_196 : decode cL_law 196 = .ok (.ireturn, 1) := by decide +kernel
theorem dL_law_197 : decode cL_law 197 = .ok (.goto 346, 3) := by decide +kernel
theorem dL_law_200 : decode cL_law 200 = .ok (.aload_n 1, 1) := by decide +kernel
theorem dL_law_201 : decode cL_law 201 = .ok (.aload_n 3, 1) := by decide +kernel
theorem dL_law_202 : decode cL_law 202 = .ok (.invokestatic 56, 3) := by decide +kernel
theorem dL_law_205 : decode cL_law 205 = .ok (.istore 5, 2) := by decide +kernel
theorem dL_law_207 : decode cL_law 207 = .ok (.aload_n 2, 1) := by decide +kernel
theorem dL_law_208 : decode cL_law 208 = .ok (.invokevirtual 58, 3) := by decide +kernel
theorem dL_law_211 : decode cL_law 211 = .ok (.istore 6, 2) := by decide +kernel
theorem dL_law_213 : decode cL_law 213 = .ok (.aload_n 2, 1) := by decide +kernel
theorem dL_law_214 : decode cL_law 214 = .ok (.invokevirtual 49, 3) := by decide +kernel
theorem dL_law_217 : decode cL_law 217 = .ok (.iload 5, 2) := by decide +kernel
theorem dL_law_219 : decode cL_law 219 = .ok (.if_icmp .eq 5, 3) := by decide +kernel
theorem dL_law_222 : decode cL_law 222 = .ok (.iconst 0, 1) := by decide +kernel
theorem dL_law_223 : decode cL_law 223 = .ok (.ireturn, 1) := by decide +kernel
theorem dL_law_224 : decode cL_law 224 = .ok (.iload 5, 2) := by decide +kernel
theorem dL_law_226 : decode cL_law 226 = .ok (.ifCond .ne 15, 3) := by decide +kernel
theorem dL_law_229 : decode cL_law 229 = .ok (.aload_n 3, 1) := by decide +kernel
theorem dL_law_230 : decode cL_law 230 = .ok (.iconst 0, 1) := by decide +kernel
theorem dL_law_231 : decode cL_law 231 = .ok (.laload, 1) := by decide +kernel
theorem dL_law_232 : decode cL_law 232 = .ok (.iload 6, 2) := by decide +kernel
theorem dL_law_234 : decode cL_law 234 = .ok (.i2l, 1) := by decide +kernel
theorem dL_law_235 : decode cL_law 235 = .ok (.lcmp, 1) := by decide +kernel
theorem dL_law_236 : decode cL_law 236 = .ok (.ifCond .eq 5, 3) := by decide +kernel
theorem dL_law_239 : decode cL_law 239 = .ok (.iconst 0, 1) := by decide +kernel
theorem dL_law_240 : decode cL_law 240 = .ok (.ireturn, 1) := by decide +kernel
theorem dL_law_241 : decode cL_law 241 = .ok (.goto 302, 3) := by decide +kernel
theorem dL_law_244 : decode cL_law 244 = .ok (.aload_n 1, 1) := by decide +kernel
theorem dL_law_245 : decode cL_law 245 = .ok (.aload_n 0, 1) := by decide +kernel
theorem dL_law_246 : decode cL_law 246 = .ok (.iload 4, 2) := by decide +kernel
theorem dL_law_248 : decode cL_law 248 = .ok (.iconst 1, 1) := by decide +kernel
theorem dL_law_249 : decode cL_law 249 = .ok (.iadd, 1) := by decide +kernel
theorem dL_law_250 : decode cL_law 250 = .ok (.iaload, 1) := by decide +kernel
theorem dL_law_251 : decode cL_law 251 = .ok (.aload_n 3, 1) := by decide +kernel
theorem dL_law_252 : decode cL_law 252 = .ok (.invokestatic 59, 3) := by decide +kernel
theorem dL_law_255 : decode cL_law 255 = .ok (.istore 5, 2) := by decide +kernel
theorem dL_law_257 : decode cL_law 257 = .ok (.aload_n 2, 1) := by decide +kernel
theorem dL_law_258 : decode cL_law 258 = .ok (.aload_n 0, 1) := by decide +kernel
theorem dL_law_259 : decode cL_law 259 = .ok (.iload 4, 2) := by decide +kernel
theorem dL_law_261 : decode cL_law 261 = .ok (.iconst 1, 1) := by decide +kernel
theorem dL_law_262 : decode cL_law 262 = .ok (.iadd, 1) := by decide +kernel
theorem dL_law_263 : decode cL_law 263 = .ok (.iaload, 1) := by decide +kernel
theorem dL_law_264 : decode cL_law 264 = .ok (.invokevirtual 61, 3) := by decide +kernel
theorem dL_law_267 : decode cL_law 267 = .ok (.istore 6, 2) := by decide +kernel
theorem dL_law_269 : decode cL_law 269 = .ok (.aload_n 2, 1) := by decide +kernel
theorem dL_law_270 : decode cL_law 270 = .ok (.invokevirtual 49, 3) := by decide +kernel
theorem dL_law_273 : decode cL_law 273 = .ok (.iload 5, 2) := by decide +kernel
theorem dL_law_275 : decode cL_law 275 = .ok (.if_icmp .eq 5, 3) := by decide +kernel
theorem dL_law_278 : decode cL_law 278 = .ok (.iconst 0, 1) := by decide +kernel
theorem dL_law_279 : decode cL_law 279 = .ok (.ireturn, 1) := by decide +kernel
theorem dL_law_280 : decode cL_law 280 = .ok (.iload 5, 2) := by decide +kernel
theorem dL_law_282 : decode cL_law 282 = .ok (.ifCond .ne 15, 3) := by decide +kernel
theorem dL_law_285 : decode cL_law 285 = .ok (.aload_n 3, 1) := by decide +kernel
theorem dL_law_286 : decode cL_law 286 = .ok (.iconst 0, 1) := by decide +kernel
theorem dL_law_287 : decode cL_law 287 = .ok (.laload, 1) := by decide +kernel
theorem dL_law_288 : decode cL_law 288 = .ok (.iload 6, 2) := by decide +kernel
theorem dL_law_290 : decode cL_law 290 = .ok (.i2l, 1) := by decide +kernel
theorem dL_law_291 : decode cL_law 291 = .ok (.lcmp, 1) := by decide +kernel
theorem dL_law_292 : decode cL_law 292 = .ok (.ifCond .eq 5, 3) := by decide +kernel
theorem dL_law_295 : decode cL_law 295 = .ok (.iconst 0, 1) := by decide +kernel
theorem dL_law_296 : decode cL_law 296 = .ok (.ireturn, 1) := by decide +kernel
theorem dL_law_297 : decode cL_law 297 = .ok (.goto 246, 3) := by decide +kernel
theorem dL_law_300 : decode cL_law 300 = .ok (.aload_n 1, 1) := by decide +kernel
theorem dL_law_301 : decode cL_law 301 = .ok (.invokevirtual 62, 3) := by decide +kernel
theorem dL_law_304 : decode cL_law 304 = .ok (.aload_n 2, 1) := by decide +kernel
theorem dL_law_305 : decode cL_law 305 = .ok (.invokevirtual 66, 3) := by decide +kernel
theorem dL_law_308 : decode cL_law 308 = .ok (.if_icmp .eq 235, 3) := by decide +kernel
theorem dL_law_311 : decode cL_law 311 = .ok (.iconst 0, 1) := by decide +kernel
theorem dL_law_312 : decode cL_law 312 = .ok (.ireturn, 1) := by decide +kernel
theorem dL_law_313 : decode cL_law 313 = .ok (.aload_n 1, 1) := by decide +kernel
theorem dL_law_314 : decode cL_law 314 = .ok (.invokevirtual 67, 3) := by decide +kernel
theorem dL_law_317 : decode cL_law 317 = .ok (.aload_n 2, 1) := by decide +kernel
theorem dL_law_318 : decode cL_law 318 = .ok (.invokevirtual 70, 3) := by decide +kernel
theorem dL_law_321 : decode cL_law 321 = .ok (.if_icmp .eq 222, 3) := by decide +kernel
theorem dL_law_324 : decode cL_law 324 = .ok (.iconst 0, 1) := by decide +kernel
theorem dL_law_325 : decode cL_law 325 = .ok (.ireturn, 1) := by decide +kernel
theorem dL_law_326 : decode cL_law 326 = .ok (.aload_n 1, 1) := by decide +kernel
theorem dL_law_327 : decode cL_law 327 = .ok (.aload_n 0, 1) := by decide +kernel
theorem dL_law_328 : decode cL_law 328 = .ok (.iload 4, 2) := by decide +kernel
theorem dL_law_330 : decode cL_law 330 = .ok (.iconst 1, 1) := by decide +kernel
theorem dL_law_331 : decode cL_law 331 = .ok (.iadd, 1) := by decide +kernel
theorem dL_law_332 : decode cL_law 332 = .ok (.iaload, 1) := by decide +kernel
theorem dL_law_333 : decode cL_law 333 = .ok (.aload_n 3, 1) := by decide +kernel
theorem dL_law_334 : decode cL_law 334 = .ok (.invokestatic 71, 3) := by decide +kernel
theorem dL_law_337 : decode cL_law 337 = .ok (.istore 5, 2) := by decide +kernel
theorem dL_law_339 : decode cL_law 339 = .ok (.aload_n 2, 1) := by decide +kernel
theorem dL_law_340 : decode cL_law 340 = .ok (.aload_n 0, 1) := by decide +kernel
theorem dL_law_341 : decode cL_law 341 = .ok (.iload 4, 2) := by decide +kernel
theorem dL_law_343 : decode cL_law 343 = .ok (.iconst 1, 1) := by decide +kernel
theorem dL_law_344 : decode cL_law 344 = .ok (.iadd, 1) := by decide +kernel
theorem dL_law_345 : decode cL_law 345 = .ok (.iaload, 1) := by decide +kernel
theorem dL_law_346 : decode cL_law 346 = .ok (.invokevirtual 73, 3) := by decide +kernel
theorem dL_law_349 : decode cL_law 349 = .ok (.istore 6, 2) := by decide +kernel
theorem dL_law_351 : decode cL_law 351 = .ok (.aload_n 2, 1) := by decide +kernel
theorem dL_law_352 : decode cL_law 352 = .ok (.invokevirtual 49, 3) := by decide +kernel
theorem dL_law_355 : decode cL_law 355 = .ok (.iload 5, 2) := by decide +kernel
theorem dL_law_357 : decode cL_law 357 = .ok (.if_icmp .eq 5, 3) := by decide +kernel
theorem dL_law_360 : decode cL_law 360 = .ok (.iconst 0, 1) := by decide +kernel
theorem dL_law_361 : decode cL_law 361 = .ok (.ireturn, 1) := by decide +kernel
theorem dL_law_362 : decode cL_law 362 = .ok (.iload 5, 2) := by decide +kernel
theorem dL_law_364 : decode cL_law 364 = .ok (.ifCond .ne 15, 3) := by decide +kernel
theorem dL_law_367 : decode cL_law 367 = .ok (.aload_n 3, 1) := by decide +kernel
theorem dL_law_368 : decode cL_law 368 = .ok (.iconst 0, 1) := by decide +kernel
theorem dL_law_369 : decode cL_law 369 = .ok (.laload, 1) := by decide +kernel
theorem dL_law_370 : decode cL_law 370 = .ok (.iload 6, 2) := by decide +kernel
theorem dL_law_372 : decode cL_law 372 = .ok (.i2l, 1) := by decide +kernel
theorem dL_law_373 : decode cL_law 373 = .ok (.lcmp, 1) := by decide +kernel
theorem dL_law_374 : decode cL_law 374 = .ok (.ifCond .eq 5, 3) := by decide +kernel
theorem dL_law_377 : decode cL_law 377 = .ok (.iconst 0, 1) := by decide +kernel
theorem dL_law_378 : decode cL_law 378 = .ok (.ireturn, 1) := by decide +kernel
theorem dL_law_379 : decode cL_law 379 = .ok (.goto 164, 3) := by decide +kernel
theorem dL_law_382 : decode cL_law 382 = .ok (.aload_n 1, 1) := by decide +kernel
theorem dL_law_383 : decode cL_law 383 = .ok (.aload_n 0, 1) := by decide +kernel
theorem dL_law_384 : decode cL_law 384 = .ok (.iload 4, 2) := by decide +kernel
theorem dL_law_386 : decode cL_law 386 = .ok (.iconst 1, 1) := by decide +kernel
theorem dL_law_387 : decode cL_law 387 = .ok (.iadd, 1) := by decide +kernel
theorem dL_law_388 : decode cL_law 388 = .ok (.iaload, 1) := by decide +kernel
theorem dL_law_389 : decode cL_law 389 = .ok (.aload_n 3, 1) := by decide +kernel
theorem dL_law_390 : decode cL_law 390 = .ok (.invokestatic 74, 3) := by decide +kernel
theorem dL_law_393 : decode cL_law 393 = .ok (.istore 5, 2) := by decide +kernel
theorem dL_law_395 : decode cL_law 395 = .ok (.aload_n 2, 1) := by decide +kernel
theorem dL_law_396 : decode cL_law 396 = .ok (.aload_n 0, 1) := by decide +kernel
theorem dL_law_397 : decode cL_law 397 = .ok (.iload 4, 2) := by decide +kernel
theorem dL_law_399 : decode cL_law 399 = .ok (.iconst 1, 1) := by decide +kernel
theorem dL_law_400 : decode cL_law 400 = .ok (.iadd, 1) := by decide +kernel
theorem dL_law_401 : decode cL_law 401 = .ok (.iaload, 1) := by decide +kernel
theorem dL_law_402 : decode cL_law 402 = .ok (.invokevirtual 76, 3) := by decide +kernel
theorem dL_law_405 : decode cL_law 405 = .ok (.istore 6, 2) := by decide +kernel
theorem dL_law_407 : decode cL_law 407 = .ok (.aload_n 2, 1) := by decide +kernel
theorem dL_law_408 : decode cL_law 408 = .ok (.invokevirtual 49, 3) := by decide +kernel
theorem dL_law_411 : decode cL_law 411 = .ok (.iload 5, 2) := by decide +kernel
theorem dL_law_413 : decode cL_law 413 = .ok (.if_icmp .eq 5, 3) := by decide +kernel
theorem dL_law_416 : decode cL_law 416 = .ok (.iconst 0, 1) := by decide +kernel
theorem dL_law_417 : decode cL_law 417 = .ok (.ireturn, 1) := by decide +kernel
theorem dL_law_418 : decode cL_law 418 = .ok (.iload 5, 2) := by decide +kernel
theorem dL_law_420 : decode cL_law 420 = .ok (.ifCond .ne 15, 3) := by decide +kernel
theorem dL_law_423 : decode cL_law 423 = .ok (.aload_n 3, 1) := by decide +kernel
theorem dL_law_424 : decode cL_law 424 = .ok (.iconst 0, 1) := by decide +kernel
theorem dL_law_425 : decode cL_law 425 = .ok (.laload, 1) := by decide +kernel
theorem dL_law_426 : decode cL_law 426 = .ok (.iload 6, 2) := by decide +kernel
theorem dL_law_428 : decode cL_law 428 = .ok (.i2l, 1) := by decide +kernel
theorem dL_law_429 : decode cL_law 429 = .ok (.lcmp, 1) := by decide +kernel
theorem dL_law_430 : decode cL_law 430 = .ok (.ifCond .eq 5, 3) := by decide +kernel
theorem dL_law_433 : decode cL_law 433 = .ok (.iconst 0, 1) := by decide +kernel
theorem dL_law_434 : decode cL_law 434 = .ok (.ireturn, 1) := by decide +kernel
theorem dL_law_435 : decode cL_law 435 = .ok (.goto 108, 3) := by decide +kernel
theorem dL_law_438 : decode cL_law 438 = .ok (.aload_n 1, 1) := by decide +kernel
theorem dL_law_439 : decode cL_law 439 = .ok (.aload_n 0, 1) := by decide +kernel
theorem dL_law_440 : decode cL_law 440 = .ok (.iload 4, 2) := by decide +kernel
theorem dL_law_442 : decode cL_law 442 = .ok (.iconst 1, 1) := by decide +kernel
theorem dL_law_443 : decode cL_law 443 = .ok (.iadd, 1) := by decide +kernel
theorem dL_law_444 : decode cL_law 444 = .ok (.iaload, 1) := by decide +kernel
theorem dL_law_445 : decode cL_law 445 = .ok (.aload_n 0, 1) := by decide +kernel
theorem dL_law_446 : decode cL_law 446 = .ok (.iload 4, 2) := by decide +kernel
theorem dL_law_448 : decode cL_law 448 = .ok (.iconst 2, 1) := by decide +kernel
theorem dL_law_449 : decode cL_law 449 = .ok (.iadd, 1) := by decide +kernel
theorem dL_law_450 : decode cL_law 450 = .ok (.iaload, 1) := by decide +kernel
theorem dL_law_451 : decode cL_law 451 = .ok (.aload_n 3, 1) := by decide +kernel
theorem dL_law_452 : decode cL_law 452 = .ok (.invokestatic 77, 3) := by decide +kernel
theorem dL_law_455 : decode cL_law 455 = .ok (.istore 5, 2) := by decide +kernel
theorem dL_law_457 : decode cL_law 457 = .ok (.aload_n 2, 1) := by decide +kernel
theorem dL_law_458 : decode cL_law 458 = .ok (.aload_n 0, 1) := by decide +kernel
theorem dL_law_459 : decode cL_law 459 = .ok (.iload 4, 2) := by decide +kernel
theorem dL_law_461 : decode cL_law 461 = .ok (.iconst 1, 1) := by decide +kernel
theorem dL_law_462 : decode cL_law 462 = .ok (.iadd, 1) := by decide +kernel
theorem dL_law_463 : decode cL_law 463 = .ok (.iaload, 1) := by decide +kernel
theorem dL_law_464 : decode cL_law 464 = .ok (.aload_n 0, 1) := by decide +kernel
theorem dL_law_465 : decode cL_law 465 = .ok (.iload 4, 2) := by decide +kernel
theorem dL_law_467 : decode cL_law 467 = .ok (.iconst 2, 1) := by decide +kernel
theorem dL_law_468 : decode cL_law 468 = .ok (.iadd, 1) := by decide +kernel
theorem dL_law_469 : decode cL_law 469 = .ok (.iaload, 1) := by decide +kernel
theorem dL_law_470 : decode cL_law 470 = .ok (.invokevirtual 80, 3) := by decide +kernel
theorem dL_law_473 : decode cL_law 473 = .ok (.istore 6, 2) := by decide +kernel
theorem dL_law_475 : decode cL_law 475 = .ok (.aload_n 2, 1) := by decide +kernel
theorem dL_law_476 : decode cL_law 476 = .ok (.invokevirtual 49, 3) := by decide +kernel
theorem dL_law_479 : decode cL_law 479 = .ok (.iload 5, 2) := by decide +kernel
theorem dL_law_481 : decode cL_law 481 = .ok (.if_icmp .eq 5, 3) := by decide +kernel
theorem dL_law_484 : decode cL_law 484 = .ok (.iconst 0, 1) := by decide +kernel
theorem dL_law_485 : decode cL_law 485 = .ok (.ireturn, 1) := by decide +kernel
theorem dL_law_486 : decode cL_law 486 = .ok (.iload 5, 2) := by decide +kernel
theorem dL_law_488 : decode cL_law 488 = .ok (.ifCond .ne 15, 3) := by decide +kernel
theorem dL_law_491 : decode cL_law 491 = .ok (.aload_n 3, 1) := by decide +kernel
theorem dL_law_492 : decode cL_law 492 = .ok (.iconst 0, 1) := by decide +kernel
theorem dL_law_493 : decode cL_law 493 = .ok (.laload, 1) := by decide +kernel
theorem dL_law_494 : decode cL_law 494 = .ok (.iload 6, 2) := by decide +kernel
theorem dL_law_496 : decode cL_law 496 = .ok (.i2l, 1) := by decide +kernel
theorem dL_law_497 : decode cL_law 497 = .ok (.lcmp, 1) := by decide +kernel
theorem dL_law_498 : decode cL_law 498 = .ok (.ifCond .eq 5, 3) := by decide +kernel
theorem dL_law_501 : decode cL_law 501 = .ok (.iconst 0, 1) := by decide +kernel
theorem dL_law_502 : decode cL_law 502 = .ok (.ireturn, 1) := by decide +kernel
theorem dL_law_503 : decode cL_law 503 = .ok (.goto 40, 3) := by decide +kernel
theorem dL_law_506 : decode cL_law 506 = .ok (.aload_n 1, 1) := by decide +kernel
theorem dL_law_507 : decode cL_law 507 = .ok (.invokevirtual 81, 3) := by decide +kernel
theorem dL_law_510 : decode cL_law 510 = .ok (.aload_n 2, 1) := by decide +kernel
theorem dL_law_511 : decode cL_law 511 = .ok (.invokevirtual 84, 3) := by decide +kernel
theorem dL_law_514 : decode cL_law 514 = .ok (.if_icmp .eq 29, 3) := by decide +kernel
theorem dL_law_517 : decode cL_law 517 = .ok (.iconst 0, 1) := by decide +kernel
theorem dL_law_518 : decode cL_law 518 = .ok (.ireturn, 1) := by decide +kernel
theorem dL_law_519 : decode cL_law 519 = .ok (.aload_n 1, 1) := by decide +kernel
theorem dL_law_520 : decode cL_law 520 = .ok (.invokevirtual 85, 3) := by decide +kernel
theorem dL_law_523 : decode cL_law 523 = .ok (.aload_n 2, 1) := by decide +kernel
theorem dL_law_524 : decode cL_law 524 = .ok (.invokevirtual 88, 3) := by decide +kernel
theorem dL_law_527 : decode cL_law 527 = .ok (.if_icmp .eq 16, 3) := by decide +kernel
theorem dL_law_530 : decode cL_law 530 = .ok (.iconst 0, 1) := by decide +kernel
theorem dL_law_531 : decode cL_law 531 = .ok (.ireturn, 1) := by decide +kernel
theorem dL_law_532 : decode cL_law 532 = .ok (.aload_n 1, 1) := by decide +kernel
theorem dL_law_533 : decode cL_law 533 = .ok (.invokevirtual 89, 3) := by decide +kernel
theorem dL_law_536 : decode cL_law 536 = .ok (.aload_n 2, 1) := by decide +kernel
theorem dL_law_537 : decode cL_law 537 = .ok (.invokevirtual 92, 3) := by decide +kernel
theorem dL_law_540 : decode cL_law 540 = .ok (.goto 3, 3) := by decide +kernel
theorem dL_law_543 : decode cL_law 543 = .ok (.iinc 4 3, 3) := by decide +kernel
theorem dL_law_546 : decode cL_law 546 = .ok (.goto (-523), 3) := by decide +kernel
theorem dL_law_549 : decode cL_law 549 = .ok (.iconst 1, 1) := by decide +kernel
theorem dL_law_550 : decode cL_law 550 = .ok (.ireturn, 1) := by decide +kernel
theorem dL_least_0 : decode cL_least 0 = .ok (.aload_n 2, 1) := by decide +kernel
theorem dL_least_1 : decode cL_least 1 = .ok (.iconst 0, 1) := by decide +kernel
theorem dL_least_2 : decode cL_least 2 = .ok (.aload_n 0, 1) := by decide +kernel
theorem dL_least_3 : decode cL_least 3 = .ok (.iload_n 1, 1) := by decide +kernel
theorem dL_least_4 : decode cL_least 4 = .ok (.invokevirtual 27, 3) := by decide +kernel
theorem dL_least_7 : decode cL_least 7 = .ok (.i2l, 1) := by decide +kernel
theorem dL_least_8 : decode cL_least 8 = .ok (.lastore, 1) := by decide +kernel
theorem dL_least_9 : decode cL_least 9 = .ok (.goto 6, 3) := by decide +kernel
theorem dL_least_12 : decode cL_least 12 = .ok (.astore_n 3, 1) := by decide +kernel
theorem dL_least_13 : decode cL_least 13 = .ok (.iconst 1, 1) := by decide +kernel
theorem dL_least_14 : decode cL_least 14 = .ok (.ireturn, 1) := by decide +kernel
theorem dL_least_15 : decode cL_least 15 = .ok (.iconst 0, 1) := by decide +kernel
theorem dL_least_16 : decode cL_least 16 = .ok (.ireturn, 1) := by decide +kernel
theorem dL_literal_0 : decode cL_literal 0 = .ok (.aload_n 2, 1) := by decide +kernel
theorem dL_literal_1 : decode cL_literal 1 = .ok (.iconst 0, 1) := by decide +kernel
theorem dL_literal_2 : decode cL_literal 2 = .ok (.aload_n 0, 1) := by decide +kernel
theorem dL_literal_3 : decode cL_literal 3 = .ok (.iload_n 1, 1) := by decide +kernel
theorem dL_literal_4 : decode cL_literal 4 = .ok (.invokevirtual 15, 3) := by decide +kernel
theorem dL_literal_7 : decode cL_literal 7 = .ok (.i2l, 1) := by decide +kernel
theorem dL_literal_8 : decode cL_literal 8 = .ok (.lastore, 1) := by decide +kernel
theorem dL_literal_9 : decode cL_literal 9 = .ok (.goto 9, 3) := by decide +kernel
theorem dL_literal_12 : decode cL_literal 12 = .ok (.astore_n 3, 1) := by decide +kernel
theorem dL_literal_13 : decode cL_literal 13 = .ok (.iconst 1, 1) := by decide +kernel
theorem dL_literal_14 : decode cL_literal 14 = .ok (.ireturn, 1) := by decide +kernel
theorem dL_literal_15 : decode cL_literal 15 = .ok (.astore_n 3, 1) := by decide +kernel
theorem dL_literal_16 : decode cL_literal 16 = .ok (.iconst 2, 1) := by decide +kernel
theorem dL_literal_17 : decode cL_literal 17 = .ok (.ireturn, 1) := by decide +kernel
theorem dL_literal_18 : decode cL_literal 18 = .ok (.iconst 0, 1) := by decide +kernel
theorem dL_literal_19 : decode cL_literal 19 = .ok (.ireturn, 1) := by decide +kernel
theorem dL_must_0 : decode cL_must 0 = .ok (.aload_n 2, 1) := by decide +kernel
theorem dL_must_1 : decode cL_must 1 = .ok (.iconst 0, 1) := by decide +kernel
theorem dL_must_2 : decode cL_must 2 = .ok (.aload_n 0, 1) := by decide +kernel
theorem dL_must_3 : decode cL_must 3 = .ok (.iload_n 1, 1) := by decide +kernel
theorem dL_must_4 : decode cL_must 4 = .ok (.invokevirtual 32, 3) := by decide +kernel
theorem dL_must_7 : decode cL_must 7 = .ok (.i2l, 1) := by decide +kernel
theorem dL_must_8 : decode cL_must 8 = .ok (.lastore, 1) := by decide +kernel
theorem dL_must_9 : decode cL_must 9 = .ok (.goto 6, 3) := by decide +kernel
theorem dL_must_12 : decode cL_must 12 = .ok (.astore_n 3, 1) := by decide +kernel
theorem dL_must_13 : decode cL_must 13 = .ok (.iconst 1, 1) := by decide +kernel
theorem dL_must_14 : decode cL_must 14 = .ok (.ireturn, 1) := by decide +kernel
theorem dL_must_15 : decode cL_must 15 = .ok (.iconst 0, 1) := by decide +kernel
theorem dL_must_16 : decode cL_must 16 = .ok (.ireturn, 1) := by decide +kernel
theorem dL_variable_0 : decode cL_variable 0 = .ok (.aload_n 1, 1) := by decide +kernel
theorem dL_variable_1 : decode cL_variable 1 = .ok (.iconst 0, 1) := by decide +kernel
theorem dL_variable_2 : decode cL_variable 2 = .ok (.aload_n 0, 1) := by decide +kernel
theorem dL_variable_3 : decode cL_variable 3 = .ok (.invokevirtual 7, 3) := by decide +kernel
theorem dL_variable_6 : decode cL_variable 6 = .ok (.i2l, 1) := by decide +kernel
theorem dL_variable_7 : decode cL_variable 7 = .ok (.lastore, 1) := by decide +kernel
theorem dL_variable_8 : decode cL_variable 8 = .ok (.goto 6, 3) := by decide +kernel
theorem dL_variable_11 : decode cL_variable 11 = .ok (.astore_n 2, 1) := by decide +kernel
theorem dL_variable_12 : decode cL_variable 12 = .ok (.iconst 1, 1) := by decide +kernel
theorem dL_variable_13 : decode cL_variable 13 = .ok (.ireturn, 1) := by decide +kernel
theorem dL_variable_14 : decode cL_variable 14 = .ok (.iconst 0, 1) := by decide +kernel
theorem dL_variable_15 : decode cL_variable 15 = .ok (.ireturn, 1) := by decide +kernel
theorem dL_ways_0 : decode cL_ways 0 = .ok (.aload_n 3, 1) := by decide +kernel
theorem dL_ways_1 : decode cL_ways 1 = .ok (.iconst 0, 1) := by decide +kernel
theorem dL_ways_2 : decode cL_ways 2 = .ok (.aload_n 0, 1) := by decide +kernel
theorem dL_ways_3 : decode cL_ways 3 = .ok (.iload_n 1, 1) := by decide +kernel
theorem dL_ways_4 : decode cL_ways 4 = .ok (.iload_n 2, 1) := by decide +kernel
theorem dL_ways_5 : decode cL_ways 5 = .ok (.invokevirtual 35, 3) := by decide +kernel
theorem dL_ways_8 : decode cL_ways 8 = .ok (.i2l, 1) := by decide +kernel
theorem dL_ways_9 : decode cL_ways 9 = .ok (.lastore, 1) := by decide +kernel
theorem dL_ways_10 : decode cL_ways 10 = .ok (.goto 11, 3) := by decide +kernel
theorem dL_ways_13 : decode cL_ways 13 = .ok (.astore 4, 2) := by decide +kernel
theorem dL_ways_15 : decode cL_ways 15 = .ok (.iconst 1, 1) := by decide +kernel
theorem dL_ways_16 : decode cL_ways 16 = .ok (.ireturn, 1) := by decide +kernel
theorem dL_ways_17 : decode cL_ways 17 = .ok (.astore 4, 2) := by decide +kernel
theorem dL_ways_19 : decode cL_ways 19 = .ok (.iconst 2, 1) := by decide +kernel
theorem dL_ways_20 : decode cL_ways 20 = .ok (.ireturn, 1) := by decide +kernel
theorem dL_ways_21 : decode cL_ways 21 = .ok (.iconst 0, 1) := by decide +kernel
theorem dL_ways_22 : decode cL_ways 22 = .ok (.ireturn, 1) := by decide +kernel
theorem dM_assume_0 : decode cM_assume 0 = .ok (.aload_n 0, 1) := by decide +kernel
theorem dM_assume_1 : decode cM_assume 1 = .ok (.aload_n 0, 1) := by decide +kernel
theorem dM_assume_2 : decode cM_assume 2 = .ok (.iload_n 1, 1) := by decide +kernel
theorem dM_assume_3 : decode cM_assume 3 = .ok (.invokevirtual 62, 3) := by decide +kernel
theorem dM_assume_6 : decode cM_assume 6 = .ok (.ifCond .ne 7, 3) := by decide +kernel
theorem dM_assume_9 : decode cM_assume 9 = .ok (.iconst 1, 1) := by decide +kernel
theorem dM_assume_10 : decode cM_assume 10 = .ok (.goto 17, 3) := by decide +kernel
theorem dM_assume_13 : decode cM_assume 13 = .ok (.aload_n 0, 1) := by decide +kernel
theorem dM_assume_14 : decode cM_assume 14 = .ok (.getfield 53, 3) := by decide +kernel
theorem dM_assume_17 : decode cM_assume 17 = .ok (.bipush 64, 2) := by decide +kernel
theorem dM_assume_19 : decode cM_assume 19 = .ok (.if_icmp .ne 7, 3) := by decide +kernel
theorem dM_assume_22 : decode cM_assume 22 = .ok (.iconst 2, 1) := by decide +kernel
theorem dM_assume_23 : decode cM_assume 23 = .ok (.goto 4, 3) := by decide +kernel
theorem dM_assume_26 : decode cM_assume 26 = .ok (.iconst 0, 1) := by decide +kernel
theorem dM_assume_27 : decode cM_assume 27 = .ok (.putfield 37, 3) := by decide +kernel
theorem dM_assume_30 : decode cM_assume 30 = .ok (.aload_n 0, 1) := by decide +kernel
theorem dM_assume_31 : decode cM_assume 31 = .ok (.getfield 37, 3) := by decide +kernel
theorem dM_assume_34 : decode cM_assume 34 = .ok (.ifCond .le 5, 3) := by decide +kernel
theorem dM_assume_37 : decode cM_assume 37 = .ok (.iconst 0, 1) := by decide +kernel
theorem dM_assume_38 : decode cM_assume 38 = .ok (.ireturn, 1) := by decide +kernel
theorem dM_assume_39 : decode cM_assume 39 = .ok (.aload_n 0, 1) := by decide +kernel
theorem dM_assume_40 : decode cM_assume 40 = .ok (.getfield 22, 3) := by decide +kernel
theorem dM_assume_43 : decode cM_assume 43 = .ok (.aload_n 0, 1) := by decide +kernel
theorem dM_assume_44 : decode cM_assume 44 = .ok (.getfield 53, 3) := by decide +kernel
theorem dM_assume_47 : decode cM_assume 47 = .ok (.iload_n 1, 1) := by decide +kernel
theorem dM_assume_48 : decode cM_assume 48 = .ok (.iastore, 1) := by decide +kernel
theorem dM_assume_49 : decode cM_assume 49 = .ok (.aload_n 0, 1) := by decide +kernel
theorem dM_assume_50 : decode cM_assume 50 = .ok (.dup, 1) := by decide +kernel
theorem dM_assume_51 : decode cM_assume 51 = .ok (.getfield 53, 3) := by decide +kernel
theorem dM_assume_54 : decode cM_assume 54 = .ok (.iconst 1, 1) := by decide +kernel
theorem dM_assume_55 : decode cM_assume 55 = .ok (.iadd, 1) := by decide +kernel
theorem dM_assume_56 : decode cM_assume 56 = .ok (.putfield 53, 3) := by decide +kernel
theorem dM_assume_59 : decode cM_assume 59 = .ok (.aload_n 0, 1) := by decide +kernel
theorem dM_assume_60 : decode cM_assume 60 = .ok (.getfield 53, 3) := by decide +kernel
theorem dM_assume_63 : decode cM_assume 63 = .ok (.ireturn, 1) := by decide +kernel
theorem dM_blame_0 : decode cM_blame 0 = .ok (.aload_n 0, 1) := by decide +kernel
theorem dM_blame_1 : decode cM_blame 1 = .ok (.iconst 0, 1) := by decide +kernel
theorem dM_blame_2 : decode cM_blame 2 = .ok (.putfield 37, 3) := by decide +kernel
theorem dM_blame_5 : decode cM_blame 5 = .ok (.aload_n 0, 1) := by decide +kernel
theorem dM_blame_6 : decode cM_blame 6 = .ok (.getfield 56, 3) := by decide +kernel
theorem dM_blame_9 : decode cM_blame 9 = .ok (.iconst 2, 1) := by decide +kernel
theorem dM_blame_10 : decode cM_blame 10 = .ok (.if_icmp .ne 10, 3) := by decide +kernel
theorem dM_blame_13 : decode cM_blame 13 = .ok (.aload_n 0, 1) := by decide +kernel
theorem dM_blame_14 : decode cM_blame 14 = .ok (.getfield 82, 3) := by decide +kernel
theorem dM_blame_17 : decode cM_blame 17 = .ok (.goto 4, 3) := by decide +kernel
theorem dM_blame_20 : decode cM_blame 20 = .ok (.iconst (-1), 1) := by decide +kernel
theorem dM_blame_21 : decode cM_blame 21 = .ok (.ireturn, 1) := by decide +kernel
theorem dM_clear_0 : decode cM_clear 0 = .ok (.aload_n 0, 1) := by decide +kernel
