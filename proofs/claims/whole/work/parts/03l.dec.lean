theorem dM_clash_118 : decode bM_clash 118 = .ok (.aload_n 0, 1) := by decide +kernel
theorem dM_clash_119 : decode bM_clash 119 = .ok (.getfield 25, 3) := by decide +kernel
theorem dM_clash_122 : decode bM_clash 122 = .ok (.bipush 10, 2) := by decide +kernel
theorem dM_clash_124 : decode bM_clash 124 = .ok (.iload_n 2, 1) := by decide +kernel
theorem dM_clash_125 : decode bM_clash 125 = .ok (.imul, 1) := by decide +kernel
theorem dM_clash_126 : decode bM_clash 126 = .ok (.aload_n 0, 1) := by decide +kernel
theorem dM_clash_127 : decode bM_clash 127 = .ok (.getfield 13, 3) := by decide +kernel
theorem dM_clash_130 : decode bM_clash 130 = .ok (.iload_n 2, 1) := by decide +kernel
theorem dM_clash_131 : decode bM_clash 131 = .ok (.iaload, 1) := by decide +kernel
theorem dM_clash_132 : decode bM_clash 132 = .ok (.iadd, 1) := by decide +kernel
theorem dM_clash_133 : decode bM_clash 133 = .ok (.iconst 1, 1) := by decide +kernel
theorem dM_clash_134 : decode bM_clash 134 = .ok (.isub, 1) := by decide +kernel
theorem dM_clash_135 : decode bM_clash 135 = .ok (.iaload, 1) := by decide +kernel
theorem dM_clash_136 : decode bM_clash 136 = .ok (.istore 6, 2) := by decide +kernel
theorem dM_clash_138 : decode bM_clash 138 = .ok (.iload 5, 2) := by decide +kernel
theorem dM_clash_140 : decode bM_clash 140 = .ok (.iload 6, 2) := by decide +kernel
theorem dM_clash_142 : decode bM_clash 142 = .ok (.if_icmp .ge 8, 3) := by decide +kernel
theorem dM_clash_145 : decode bM_clash 145 = .ok (.iload 5, 2) := by decide +kernel
theorem dM_clash_147 : decode bM_clash 147 = .ok (.goto 5, 3) := by decide +kernel
theorem dM_clash_150 : decode bM_clash 150 = .ok (.iload 6, 2) := by decide +kernel
theorem dM_clash_152 : decode bM_clash 152 = .ok (.istore 7, 2) := by decide +kernel
theorem dM_clash_154 : decode bM_clash 154 = .ok (.iconst 0, 1) := by decide +kernel
theorem dM_clash_155 : decode bM_clash 155 = .ok (.istore 8, 2) := by decide +kernel
theorem dM_clash_157 : decode bM_clash 157 = .ok (.iconst 0, 1) := by decide +kernel
theorem dM_clash_158 : decode bM_clash 158 = .ok (.istore 9, 2) := by decide +kernel
theorem dM_clash_160 : decode bM_clash 160 = .ok (.iconst 0, 1) := by decide +kernel
theorem dM_clash_161 : decode bM_clash 161 = .ok (.istore 10, 2) := by decide +kernel
theorem dM_clash_163 : decode bM_clash 163 = .ok (.iload 10, 2) := by decide +kernel
theorem dM_clash_165 : decode bM_clash 165 = .ok (.iconst 2, 1) := by decide +kernel
theorem dM_clash_166 : decode bM_clash 166 = .ok (.if_icmp .ge 149, 3) := by decide +kernel
theorem dM_clash_169 : decode bM_clash 169 = .ok (.iload 10, 2) := by decide +kernel
theorem dM_clash_171 : decode bM_clash 171 = .ok (.ifCond .ne 7, 3) := by decide +kernel
theorem dM_clash_174 : decode bM_clash 174 = .ok (.iload_n 1, 1) := by decide +kernel
theorem dM_clash_175 : decode bM_clash 175 = .ok (.goto 4, 3) := by decide +kernel
theorem dM_clash_178 : decode bM_clash 178 = .ok (.iload_n 2, 1) := by decide +kernel
theorem dM_clash_179 : decode bM_clash 179 = .ok (.istore 11, 2) := by decide +kernel
theorem dM_clash_181 : decode bM_clash 181 = .ok (.iconst 0, 1) := by decide +kernel
theorem dM_clash_182 : decode bM_clash 182 = .ok (.istore 12, 2) := by decide +kernel
theorem dM_clash_184 : decode bM_clash 184 = .ok (.iload 12, 2) := by decide +kernel
theorem dM_clash_186 : decode bM_clash 186 = .ok (.aload_n 0, 1) := by decide +kernel
theorem dM_clash_187 : decode bM_clash 187 = .ok (.getfield 13, 3) := by decide +kernel
theorem dM_clash_190 : decode bM_clash 190 = .ok (.iload 11, 2) := by decide +kernel
theorem dM_clash_192 : decode bM_clash 192 = .ok (.iaload, 1) := by decide +kernel
theorem dM_clash_193 : decode bM_clash 193 = .ok (.if_icmp .ge 116, 3) := by decide +kernel
theorem dM_clash_196 : decode bM_clash 196 = .ok (.aload_n 0, 1) := by decide +kernel
theorem dM_clash_197 : decode bM_clash 197 = .ok (.getfield 25, 3) := by decide +kernel
theorem dM_clash_200 : decode bM_clash 200 = .ok (.bipush 10, 2) := by decide +kernel
theorem dM_clash_202 : decode bM_clash 202 = .ok (.iload 11, 2) := by decide +kernel
theorem dM_clash_204 : decode bM_clash 204 = .ok (.imul, 1) := by decide +kernel
theorem dM_clash_205 : decode bM_clash 205 = .ok (.iload 12, 2) := by decide +kernel
theorem dM_clash_207 : decode bM_clash 207 = .ok (.iadd, 1) := by decide +kernel
theorem dM_clash_208 : decode bM_clash 208 = .ok (.iaload, 1) := by decide +kernel
theorem dM_clash_209 : decode bM_clash 209 = .ok (.istore 13, 2) := by decide +kernel
theorem dM_clash_211 : decode bM_clash 211 = .ok (.iload 13, 2) := by decide +kernel
theorem dM_clash_213 : decode bM_clash 213 = .ok (.iload 4, 2) := by decide +kernel
theorem dM_clash_215 : decode bM_clash 215 = .ok (.iload 7, 2) := by decide +kernel
theorem dM_clash_217 : decode bM_clash 217 = .ok (.invokestatic 63, 3) := by decide +kernel
theorem dM_clash_220 : decode bM_clash 220 = .ok (.ifCond .eq 83, 3) := by decide +kernel
theorem dM_clash_223 : decode bM_clash 223 = .ok (.aload_n 0, 1) := by decide +kernel
theorem dM_clash_224 : decode bM_clash 224 = .ok (.iload_n 1, 1) := by decide +kernel
theorem dM_clash_225 : decode bM_clash 225 = .ok (.iload_n 2, 1) := by decide +kernel
theorem dM_clash_226 : decode bM_clash 226 = .ok (.iload 13, 2) := by decide +kernel
theorem dM_clash_228 : decode bM_clash 228 = .ok (.invokevirtual 144, 3) := by decide +kernel
theorem dM_clash_231 : decode bM_clash 231 = .ok (.lstore 14, 2) := by decide +kernel
theorem dM_clash_233 : decode bM_clash 233 = .ok (.iload 8, 2) := by decide +kernel
theorem dM_clash_235 : decode bM_clash 235 = .ok (.ifCond .ne 10, 3) := by decide +kernel
theorem dM_clash_238 : decode bM_clash 238 = .ok (.lload 14, 2) := by decide +kernel
theorem dM_clash_240 : decode bM_clash 240 = .ok (.lconst 0, 1) := by decide +kernel
theorem dM_clash_241 : decode bM_clash 241 = .ok (.lcmp, 1) := by decide +kernel
theorem dM_clash_242 : decode bM_clash 242 = .ok (.ifCond .le 7, 3) := by decide +kernel
theorem dM_clash_245 : decode bM_clash 245 = .ok (.iconst 1, 1) := by decide +kernel
theorem dM_clash_246 : decode bM_clash 246 = .ok (.goto 4, 3) := by decide +kernel
theorem dM_clash_249 : decode bM_clash 249 = .ok (.iconst 0, 1) := by decide +kernel
theorem dM_clash_250 : decode bM_clash 250 = .ok (.istore 8, 2) := by decide +kernel
theorem dM_clash_252 : decode bM_clash 252 = .ok (.iload 9, 2) := by decide +kernel
theorem dM_clash_254 : decode bM_clash 254 = .ok (.ifCond .ne 10, 3) := by decide +kernel
theorem dM_clash_257 : decode bM_clash 257 = .ok (.lload 14, 2) := by decide +kernel
theorem dM_clash_259 : decode bM_clash 259 = .ok (.lconst 0, 1) := by decide +kernel
theorem dM_clash_260 : decode bM_clash 260 = .ok (.lcmp, 1) := by decide +kernel
theorem dM_clash_261 : decode bM_clash 261 = .ok (.ifCond .ge 7, 3) := by decide +kernel
theorem dM_clash_264 : decode bM_clash 264 = .ok (.iconst 1, 1) := by decide +kernel
theorem dM_clash_265 : decode bM_clash 265 = .ok (.goto 4, 3) := by decide +kernel
theorem dM_clash_268 : decode bM_clash 268 = .ok (.iconst 0, 1) := by decide +kernel
theorem dM_clash_269 : decode bM_clash 269 = .ok (.istore 9, 2) := by decide +kernel
theorem dM_clash_271 : decode bM_clash 271 = .ok (.lload 14, 2) := by decide +kernel
theorem dM_clash_273 : decode bM_clash 273 = .ok (.lconst 0, 1) := by decide +kernel
theorem dM_clash_274 : decode bM_clash 274 = .ok (.lcmp, 1) := by decide +kernel
theorem dM_clash_275 : decode bM_clash 275 = .ok (.ifCond .ge 9, 3) := by decide +kernel
theorem dM_clash_278 : decode bM_clash 278 = .ok (.lload 14, 2) := by decide +kernel
theorem dM_clash_280 : decode bM_clash 280 = .ok (.lneg, 1) := by decide +kernel
theorem dM_clash_281 : decode bM_clash 281 = .ok (.goto 5, 3) := by decide +kernel
theorem dM_clash_284 : decode bM_clash 284 = .ok (.lload 14, 2) := by decide +kernel
theorem dM_clash_286 : decode bM_clash 286 = .ok (.iload_n 3, 1) := by decide +kernel
theorem dM_clash_287 : decode bM_clash 287 = .ok (.i2l, 1) := by decide +kernel
theorem dM_clash_288 : decode bM_clash 288 = .ok (.aload_n 0, 1) := by decide +kernel
theorem dM_clash_289 : decode bM_clash 289 = .ok (.iload_n 1, 1) := by decide +kernel
theorem dM_clash_290 : decode bM_clash 290 = .ok (.iload_n 2, 1) := by decide +kernel
theorem dM_clash_291 : decode bM_clash 291 = .ok (.iload 13, 2) := by decide +kernel
theorem dM_clash_293 : decode bM_clash 293 = .ok (.invokevirtual 148, 3) := by decide +kernel
theorem dM_clash_296 : decode bM_clash 296 = .ok (.lmul, 1) := by decide +kernel
theorem dM_clash_297 : decode bM_clash 297 = .ok (.lcmp, 1) := by decide +kernel
theorem dM_clash_298 : decode bM_clash 298 = .ok (.ifCond .ge 5, 3) := by decide +kernel
theorem dM_clash_301 : decode bM_clash 301 = .ok (.iconst 1, 1) := by decide +kernel
theorem dM_clash_302 : decode bM_clash 302 = .ok (.ireturn, 1) := by decide +kernel
theorem dM_clash_303 : decode bM_clash 303 = .ok (.iinc 12 1, 3) := by decide +kernel
theorem dM_clash_306 : decode bM_clash 306 = .ok (.goto (-122), 3) := by decide +kernel
theorem dM_clash_309 : decode bM_clash 309 = .ok (.iinc 10 1, 3) := by decide +kernel
theorem dM_clash_312 : decode bM_clash 312 = .ok (.goto (-149), 3) := by decide +kernel
theorem dM_clash_315 : decode bM_clash 315 = .ok (.iload 8, 2) := by decide +kernel
theorem dM_clash_317 : decode bM_clash 317 = .ok (.ifCond .eq 12, 3) := by decide +kernel
theorem dM_clash_320 : decode bM_clash 320 = .ok (.iload 9, 2) := by decide +kernel
theorem dM_clash_322 : decode bM_clash 322 = .ok (.ifCond .eq 7, 3) := by decide +kernel
theorem dM_clash_325 : decode bM_clash 325 = .ok (.iconst 1, 1) := by decide +kernel
theorem dM_clash_326 : decode bM_clash 326 = .ok (.goto 4, 3) := by decide +kernel
theorem dM_clash_329 : decode bM_clash 329 = .ok (.iconst 0, 1) := by decide +kernel
theorem dM_clash_330 : decode bM_clash 330 = .ok (.ireturn, 1) := by decide +kernel
theorem dM_locked_0 : decode bM_locked 0 = .ok (.iload_n 1, 1) := by decide +kernel
theorem dM_locked_1 : decode bM_locked 1 = .ok (.iconst 0, 1) := by decide +kernel
theorem dM_locked_2 : decode bM_locked 2 = .ok (.aload_n 0, 1) := by decide +kernel
theorem dM_locked_3 : decode bM_locked 3 = .ok (.getfield 131, 3) := by decide +kernel
theorem dM_locked_6 : decode bM_locked 6 = .ok (.iconst 1, 1) := by decide +kernel
theorem dM_locked_7 : decode bM_locked 7 = .ok (.isub, 1) := by decide +kernel
theorem dM_locked_8 : decode bM_locked 8 = .ok (.invokestatic 63, 3) := by decide +kernel
theorem dM_locked_11 : decode bM_locked 11 = .ok (.ifCond .eq 12, 3) := by decide +kernel
theorem dM_locked_14 : decode bM_locked 14 = .ok (.aload_n 0, 1) := by decide +kernel
theorem dM_locked_15 : decode bM_locked 15 = .ok (.getfield 35, 3) := by decide +kernel
theorem dM_locked_18 : decode bM_locked 18 = .ok (.iload_n 1, 1) := by decide +kernel
theorem dM_locked_19 : decode bM_locked 19 = .ok (.iaload, 1) := by decide +kernel
theorem dM_locked_20 : decode bM_locked 20 = .ok (.goto 4, 3) := by decide +kernel
theorem dM_locked_23 : decode bM_locked 23 = .ok (.iconst (-1), 1) := by decide +kernel
theorem dM_locked_24 : decode bM_locked 24 = .ok (.ireturn, 1) := by decide +kernel
theorem dM_wanted_0 : decode bM_wanted 0 = .ok (.aload_n 0, 1) := by decide +kernel
theorem dM_wanted_1 : decode bM_wanted 1 = .ok (.iload_n 1, 1) := by decide +kernel
theorem dM_wanted_2 : decode bM_wanted 2 = .ok (.invokevirtual 67, 3) := by decide +kernel
theorem dM_wanted_5 : decode bM_wanted 5 = .ok (.ifCond .eq 32, 3) := by decide +kernel
theorem dM_wanted_8 : decode bM_wanted 8 = .ok (.aload_n 0, 1) := by decide +kernel
theorem dM_wanted_9 : decode bM_wanted 9 = .ok (.getfield 13, 3) := by decide +kernel
theorem dM_wanted_12 : decode bM_wanted 12 = .ok (.iload_n 1, 1) := by decide +kernel
theorem dM_wanted_13 : decode bM_wanted 13 = .ok (.iaload, 1) := by decide +kernel
theorem dM_wanted_14 : decode bM_wanted 14 = .ok (.iconst 2, 1) := by decide +kernel
theorem dM_wanted_15 : decode bM_wanted 15 = .ok (.if_icmp .lt 22, 3) := by decide +kernel
theorem dM_wanted_18 : decode bM_wanted 18 = .ok (.iload_n 2, 1) := by decide +kernel
theorem dM_wanted_19 : decode bM_wanted 19 = .ok (.iconst 1, 1) := by decide +kernel
theorem dM_wanted_20 : decode bM_wanted 20 = .ok (.iconst 3, 1) := by decide +kernel
theorem dM_wanted_21 : decode bM_wanted 21 = .ok (.invokestatic 63, 3) := by decide +kernel
theorem dM_wanted_24 : decode bM_wanted 24 = .ok (.ifCond .eq 13, 3) := by decide +kernel
theorem dM_wanted_27 : decode bM_wanted 27 = .ok (.iload_n 3, 1) := by decide +kernel
theorem dM_wanted_28 : decode bM_wanted 28 = .ok (.iconst 1, 1) := by decide +kernel
theorem dM_wanted_29 : decode bM_wanted 29 = .ok (.ldc 151, 2) := by decide +kernel
theorem dM_wanted_31 : decode bM_wanted 31 = .ok (.invokestatic 63, 3) := by decide +kernel
theorem dM_wanted_34 : decode bM_wanted 34 = .ok (.ifCond .ne 5, 3) := by decide +kernel
theorem dM_wanted_37 : decode bM_wanted 37 = .ok (.iconst (-1), 1) := by decide +kernel
theorem dM_wanted_38 : decode bM_wanted 38 = .ok (.ireturn, 1) := by decide +kernel
theorem dM_wanted_39 : decode bM_wanted 39 = .ok (.iconst 0, 1) := by decide +kernel
theorem dM_wanted_40 : decode bM_wanted 40 = .ok (.istore 5, 2) := by decide +kernel
theorem dM_wanted_42 : decode bM_wanted 42 = .ok (.iload 5, 2) := by decide +kernel
theorem dM_wanted_44 : decode bM_wanted 44 = .ok (.bipush 51, 2) := by decide +kernel
theorem dM_wanted_46 : decode bM_wanted 46 = .ok (.if_icmp .ge 90, 3) := by decide +kernel
theorem dM_wanted_49 : decode bM_wanted 49 = .ok (.aload_n 0, 1) := by decide +kernel
theorem dM_wanted_50 : decode bM_wanted 50 = .ok (.iload_n 1, 1) := by decide +kernel
theorem dM_wanted_51 : decode bM_wanted 51 = .ok (.iload_n 2, 1) := by decide +kernel
theorem dM_wanted_52 : decode bM_wanted 52 = .ok (.iload 5, 2) := by decide +kernel
theorem dM_wanted_54 : decode bM_wanted 54 = .ok (.i2l, 1) := by decide +kernel
theorem dM_wanted_55 : decode bM_wanted 55 = .ok (.iload_n 3, 1) := by decide +kernel
theorem dM_wanted_56 : decode bM_wanted 56 = .ok (.i2l, 1) := by decide +kernel
theorem dM_wanted_57 : decode bM_wanted 57 = .ok (.lmul, 1) := by decide +kernel
theorem dM_wanted_58 : decode bM_wanted 58 = .ok (.invokevirtual 115, 3) := by decide +kernel
theorem dM_wanted_61 : decode bM_wanted 61 = .ok (.aload_n 0, 1) := by decide +kernel
theorem dM_wanted_62 : decode bM_wanted 62 = .ok (.getfield 51, 3) := by decide +kernel
theorem dM_wanted_65 : decode bM_wanted 65 = .ok (.iconst 0, 1) := by decide +kernel
theorem dM_wanted_66 : decode bM_wanted 66 = .ok (.laload, 1) := by decide +kernel
theorem dM_wanted_67 : decode bM_wanted 67 = .ok (.lstore 6, 2) := by decide +kernel
theorem dM_wanted_69 : decode bM_wanted 69 = .ok (.iconst 1, 1) := by decide +kernel
theorem dM_wanted_70 : decode bM_wanted 70 = .ok (.istore 8, 2) := by decide +kernel
theorem dM_wanted_72 : decode bM_wanted 72 = .ok (.iload 8, 2) := by decide +kernel
theorem dM_wanted_74 : decode bM_wanted 74 = .ok (.aload_n 0, 1) := by decide +kernel
theorem dM_wanted_75 : decode bM_wanted 75 = .ok (.getfield 13, 3) := by decide +kernel
theorem dM_wanted_78 : decode bM_wanted 78 = .ok (.iload_n 1, 1) := by decide +kernel
theorem dM_wanted_79 : decode bM_wanted 79 = .ok (.iaload, 1) := by decide +kernel
theorem dM_wanted_80 : decode bM_wanted 80 = .ok (.if_icmp .ge 36, 3) := by decide +kernel
theorem dM_wanted_83 : decode bM_wanted 83 = .ok (.aload_n 0, 1) := by decide +kernel
theorem dM_wanted_84 : decode bM_wanted 84 = .ok (.getfield 51, 3) := by decide +kernel
theorem dM_wanted_87 : decode bM_wanted 87 = .ok (.iload 8, 2) := by decide +kernel
theorem dM_wanted_89 : decode bM_wanted 89 = .ok (.laload, 1) := by decide +kernel
theorem dM_wanted_90 : decode bM_wanted 90 = .ok (.lload 6, 2) := by decide +kernel
theorem dM_wanted_92 : decode bM_wanted 92 = .ok (.lcmp, 1) := by decide +kernel
theorem dM_wanted_93 : decode bM_wanted 93 = .ok (.ifCond .ge 13, 3) := by decide +kernel
theorem dM_wanted_96 : decode bM_wanted 96 = .ok (.aload_n 0, 1) := by decide +kernel
theorem dM_wanted_97 : decode bM_wanted 97 = .ok (.getfield 51, 3) := by decide +kernel
theorem dM_wanted_100 : decode bM_wanted 100 = .ok (.iload 8, 2) := by decide +kernel
theorem dM_wanted_102 : decode bM_wanted 102 = .ok (.laload, 1) := by decide +kernel
theorem dM_wanted_103 : decode bM_wanted 103 = .ok (.goto 5, 3) := by decide +kernel
theorem dM_wanted_106 : decode bM_wanted 106 = .ok (.lload 6, 2) := by decide +kernel
theorem dM_wanted_108 : decode bM_wanted 108 = .ok (.lstore 6, 2) := by decide +kernel
theorem dM_wanted_110 : decode bM_wanted 110 = .ok (.iinc 8 1, 3) := by decide +kernel
theorem dM_wanted_113 : decode bM_wanted 113 = .ok (.goto (-41), 3) := by decide +kernel
theorem dM_wanted_116 : decode bM_wanted 116 = .ok (.lload 6, 2) := by decide +kernel
theorem dM_wanted_118 : decode bM_wanted 118 = .ok (.iload 4, 2) := by decide +kernel
theorem dM_wanted_120 : decode bM_wanted 120 = .ok (.i2l, 1) := by decide +kernel
theorem dM_wanted_121 : decode bM_wanted 121 = .ok (.lcmp, 1) := by decide +kernel
theorem dM_wanted_122 : decode bM_wanted 122 = .ok (.ifCond .lt 8, 3) := by decide +kernel
theorem dM_wanted_125 : decode bM_wanted 125 = .ok (.iload 5, 2) := by decide +kernel
theorem dM_wanted_127 : decode bM_wanted 127 = .ok (.iload_n 3, 1) := by decide +kernel
theorem dM_wanted_128 : decode bM_wanted 128 = .ok (.imul, 1) := by decide +kernel
theorem dM_wanted_129 : decode bM_wanted 129 = .ok (.ireturn, 1) := by decide +kernel
theorem dM_wanted_130 : decode bM_wanted 130 = .ok (.iinc 5 1, 3) := by decide +kernel
theorem dM_wanted_133 : decode bM_wanted 133 = .ok (.goto (-91), 3) := by decide +kernel
theorem dM_wanted_136 : decode bM_wanted 136 = .ok (.iconst (-1), 1) := by decide +kernel
theorem dM_wanted_137 : decode bM_wanted 137 = .ok (.ireturn, 1) := by decide +kernel
theorem dM_count_0 : decode bM_count 0 = .ok (.iconst 0, 1) := by decide +kernel
theorem dM_count_1 : decode bM_count 1 = .ok (.istore_n 2, 1) := by decide +kernel
theorem dM_count_2 : decode bM_count 2 = .ok (.iconst 0, 1) := by decide +kernel
theorem dM_count_3 : decode bM_count 3 = .ok (.istore_n 3, 1) := by decide +kernel
theorem dM_count_4 : decode bM_count 4 = .ok (.iconst 0, 1) := by decide +kernel
theorem dM_count_5 : decode bM_count 5 = .ok (.istore 4, 2) := by decide +kernel
theorem dM_count_7 : decode bM_count 7 = .ok (.iload 4, 2) := by decide +kernel
theorem dM_count_9 : decode bM_count 9 = .ok (.aload_n 0, 1) := by decide +kernel
theorem dM_count_10 : decode bM_count 10 = .ok (.getfield 57, 3) := by decide +kernel
theorem dM_count_13 : decode bM_count 13 = .ok (.if_icmp .ge 38, 3) := by decide +kernel
theorem dM_count_16 : decode bM_count 16 = .ok (.aload_n 0, 1) := by decide +kernel
theorem dM_count_17 : decode bM_count 17 = .ok (.getfield 16, 3) := by decide +kernel
theorem dM_count_20 : decode bM_count 20 = .ok (.iload 4, 2) := by decide +kernel
theorem dM_count_22 : decode bM_count 22 = .ok (.iaload, 1) := by decide +kernel
theorem dM_count_23 : decode bM_count 23 = .ok (.iconst 1, 1) := by decide +kernel
theorem dM_count_24 : decode bM_count 24 = .ok (.if_icmp .ne 9, 3) := by decide +kernel
theorem dM_count_27 : decode bM_count 27 = .ok (.iload_n 2, 1) := by decide +kernel
theorem dM_count_28 : decode bM_count 28 = .ok (.iconst 1, 1) := by decide +kernel
theorem dM_count_29 : decode bM_count 29 = .ok (.iadd, 1) := by decide +kernel
theorem dM_count_30 : decode bM_count 30 = .ok (.goto 4, 3) := by decide +kernel
theorem dM_count_33 : decode bM_count 33 = .ok (.iload_n 2, 1) := by decide +kernel
theorem dM_count_34 : decode bM_count 34 = .ok (.istore_n 2, 1) := by decide +kernel
theorem dM_count_35 : decode bM_count 35 = .ok (.iload_n 3, 1) := by decide +kernel
theorem dM_count_36 : decode bM_count 36 = .ok (.aload_n 0, 1) := by decide +kernel
theorem dM_count_37 : decode bM_count 37 = .ok (.getfield 13, 3) := by decide +kernel
theorem dM_count_40 : decode bM_count 40 = .ok (.iload 4, 2) := by decide +kernel
theorem dM_count_42 : decode bM_count 42 = .ok (.iaload, 1) := by decide +kernel
theorem dM_count_43 : decode bM_count 43 = .ok (.iadd, 1) := by decide +kernel
theorem dM_count_44 : decode bM_count 44 = .ok (.istore_n 3, 1) := by decide +kernel
theorem dM_count_45 : decode bM_count 45 = .ok (.iinc 4 1, 3) := by decide +kernel
theorem dM_count_48 : decode bM_count 48 = .ok (.goto (-41), 3) := by decide +kernel
theorem dM_count_51 : decode bM_count 51 = .ok (.iload_n 1, 1) := by decide +kernel
theorem dM_count_52 : decode bM_count 52 = .ok (.ifCond .ne 8, 3) := by decide +kernel
theorem dM_count_55 : decode bM_count 55 = .ok (.aload_n 0, 1) := by decide +kernel
theorem dM_count_56 : decode bM_count 56 = .ok (.getfield 57, 3) := by decide +kernel
theorem dM_count_59 : decode bM_count 59 = .ok (.ireturn, 1) := by decide +kernel
theorem dM_count_60 : decode bM_count 60 = .ok (.iload_n 1, 1) := by decide +kernel
theorem dM_count_61 : decode bM_count 61 = .ok (.iconst 1, 1) := by decide +kernel
theorem dM_count_62 : decode bM_count 62 = .ok (.if_icmp .ne 8, 3) := by decide +kernel
theorem dM_count_65 : decode bM_count 65 = .ok (.aload_n 0, 1) := by decide +kernel
theorem dM_count_66 : decode bM_count 66 = .ok (.getfield 131, 3) := by decide +kernel
theorem dM_count_69 : decode bM_count 69 = .ok (.ireturn, 1) := by decide +kernel
theorem dM_count_70 : decode bM_count 70 = .ok (.iload_n 1, 1) := by decide +kernel
theorem dM_count_71 : decode bM_count 71 = .ok (.iconst 2, 1) := by decide +kernel
theorem dM_count_72 : decode bM_count 72 = .ok (.if_icmp .ne 5, 3) := by decide +kernel
theorem dM_count_75 : decode bM_count 75 = .ok (.iload_n 2, 1) := by decide +kernel
theorem dM_count_76 : decode bM_count 76 = .ok (.ireturn, 1) := by decide +kernel
theorem dM_count_77 : decode bM_count 77 = .ok (.iload_n 1, 1) := by decide +kernel
theorem dM_count_78 : decode bM_count 78 = .ok (.iconst 3, 1) := by decide +kernel
theorem dM_count_79 : decode bM_count 79 = .ok (.if_icmp .ne 10, 3) := by decide +kernel
theorem dM_count_82 : decode bM_count 82 = .ok (.aload_n 0, 1) := by decide +kernel
theorem dM_count_83 : decode bM_count 83 = .ok (.getfield 137, 3) := by decide +kernel
theorem dM_count_86 : decode bM_count 86 = .ok (.goto 13, 3) := by decide +kernel
theorem dM_count_89 : decode bM_count 89 = .ok (.iload_n 1, 1) := by decide +kernel
theorem dM_count_90 : decode bM_count 90 = .ok (.iconst 4, 1) := by decide +kernel
theorem dM_count_91 : decode bM_count 91 = .ok (.if_icmp .ne 7, 3) := by decide +kernel
theorem dM_count_94 : decode bM_count 94 = .ok (.iload_n 3, 1) := by decide +kernel
theorem dM_count_95 : decode bM_count 95 = .ok (.goto 4, 3) := by decide +kernel
theorem dM_count_98 : decode bM_count 98 = .ok (.iconst (-1), 1) := by decide +kernel
theorem dM_count_99 : decode bM_count 99 = .ok (.ireturn, 1) := by decide +kernel
