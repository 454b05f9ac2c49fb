theorem dM_tryOut_206 : decode bM_tryOut 206 = .ok (.laload, 1) := by decide +kernel
theorem dM_tryOut_207 : decode bM_tryOut 207 = .ok (.lsub, 1) := by decide +kernel
theorem dM_tryOut_208 : decode bM_tryOut 208 = .ok (.aload_n 0, 1) := by decide +kernel
theorem dM_tryOut_209 : decode bM_tryOut 209 = .ok (.getfield 51, 3) := by decide +kernel
theorem dM_tryOut_212 : decode bM_tryOut 212 = .ok (.iload 11, 2) := by decide +kernel
theorem dM_tryOut_214 : decode bM_tryOut 214 = .ok (.iconst 1, 1) := by decide +kernel
theorem dM_tryOut_215 : decode bM_tryOut 215 = .ok (.iadd, 1) := by decide +kernel
theorem dM_tryOut_216 : decode bM_tryOut 216 = .ok (.laload, 1) := by decide +kernel
theorem dM_tryOut_217 : decode bM_tryOut 217 = .ok (.lsub, 1) := by decide +kernel
theorem dM_tryOut_218 : decode bM_tryOut 218 = .ok (.lstore 12, 2) := by decide +kernel
theorem dM_tryOut_220 : decode bM_tryOut 220 = .ok (.lload 9, 2) := by decide +kernel
theorem dM_tryOut_222 : decode bM_tryOut 222 = .ok (.lload 12, 2) := by decide +kernel
theorem dM_tryOut_224 : decode bM_tryOut 224 = .ok (.aload_n 0, 1) := by decide +kernel
theorem dM_tryOut_225 : decode bM_tryOut 225 = .ok (.iload_n 1, 1) := by decide +kernel
theorem dM_tryOut_226 : decode bM_tryOut 226 = .ok (.iload 11, 2) := by decide +kernel
theorem dM_tryOut_228 : decode bM_tryOut 228 = .ok (.invokevirtual 91, 3) := by decide +kernel
theorem dM_tryOut_231 : decode bM_tryOut 231 = .ok (.lmul, 1) := by decide +kernel
theorem dM_tryOut_232 : decode bM_tryOut 232 = .ok (.ldc2_w 110, 3) := by decide +kernel
theorem dM_tryOut_235 : decode bM_tryOut 235 = .ok (.lmul, 1) := by decide +kernel
theorem dM_tryOut_236 : decode bM_tryOut 236 = .ok (.ldc2_w 77, 3) := by decide +kernel
theorem dM_tryOut_239 : decode bM_tryOut 239 = .ok (.aload_n 0, 1) := by decide +kernel
theorem dM_tryOut_240 : decode bM_tryOut 240 = .ok (.getfield 7, 3) := by decide +kernel
theorem dM_tryOut_243 : decode bM_tryOut 243 = .ok (.iload_n 1, 1) := by decide +kernel
theorem dM_tryOut_244 : decode bM_tryOut 244 = .ok (.iaload, 1) := by decide +kernel
theorem dM_tryOut_245 : decode bM_tryOut 245 = .ok (.i2l, 1) := by decide +kernel
theorem dM_tryOut_246 : decode bM_tryOut 246 = .ok (.lmul, 1) := by decide +kernel
theorem dM_tryOut_247 : decode bM_tryOut 247 = .ok (.ldc2_w 112, 3) := by decide +kernel
theorem dM_tryOut_250 : decode bM_tryOut 250 = .ok (.lmul, 1) := by decide +kernel
theorem dM_tryOut_251 : decode bM_tryOut 251 = .ok (.ldiv, 1) := by decide +kernel
theorem dM_tryOut_252 : decode bM_tryOut 252 = .ok (.ladd, 1) := by decide +kernel
theorem dM_tryOut_253 : decode bM_tryOut 253 = .ok (.lstore 9, 2) := by decide +kernel
theorem dM_tryOut_255 : decode bM_tryOut 255 = .ok (.iinc 11 1, 3) := by decide +kernel
theorem dM_tryOut_258 : decode bM_tryOut 258 = .ok (.goto (-94), 3) := by decide +kernel
theorem dM_tryOut_261 : decode bM_tryOut 261 = .ok (.lload 9, 2) := by decide +kernel
theorem dM_tryOut_263 : decode bM_tryOut 263 = .ok (.lreturn, 1) := by decide +kernel
theorem dM_letSlip_0 : decode bM_letSlip 0 = .ok (.lconst 0, 1) := by decide +kernel
theorem dM_letSlip_1 : decode bM_letSlip 1 = .ok (.lstore_n 3, 1) := by decide +kernel
theorem dM_letSlip_2 : decode bM_letSlip 2 = .ok (.aload_n 0, 1) := by decide +kernel
theorem dM_letSlip_3 : decode bM_letSlip 3 = .ok (.getfield 22, 3) := by decide +kernel
theorem dM_letSlip_6 : decode bM_letSlip 6 = .ok (.iload_n 1, 1) := by decide +kernel
theorem dM_letSlip_7 : decode bM_letSlip 7 = .ok (.iaload, 1) := by decide +kernel
theorem dM_letSlip_8 : decode bM_letSlip 8 = .ok (.i2l, 1) := by decide +kernel
theorem dM_letSlip_9 : decode bM_letSlip 9 = .ok (.lstore 5, 2) := by decide +kernel
theorem dM_letSlip_11 : decode bM_letSlip 11 = .ok (.lload_n 3, 1) := by decide +kernel
theorem dM_letSlip_12 : decode bM_letSlip 12 = .ok (.lload 5, 2) := by decide +kernel
theorem dM_letSlip_14 : decode bM_letSlip 14 = .ok (.lcmp, 1) := by decide +kernel
theorem dM_letSlip_15 : decode bM_letSlip 15 = .ok (.ifCond .ge 47, 3) := by decide +kernel
theorem dM_letSlip_18 : decode bM_letSlip 18 = .ok (.lload_n 3, 1) := by decide +kernel
theorem dM_letSlip_19 : decode bM_letSlip 19 = .ok (.lload 5, 2) := by decide +kernel
theorem dM_letSlip_21 : decode bM_letSlip 21 = .ok (.ladd, 1) := by decide +kernel
theorem dM_letSlip_22 : decode bM_letSlip 22 = .ok (.lconst 1, 1) := by decide +kernel
theorem dM_letSlip_23 : decode bM_letSlip 23 = .ok (.ladd, 1) := by decide +kernel
theorem dM_letSlip_24 : decode bM_letSlip 24 = .ok (.ldc2_w 77, 3) := by decide +kernel
theorem dM_letSlip_27 : decode bM_letSlip 27 = .ok (.ldiv, 1) := by decide +kernel
theorem dM_letSlip_28 : decode bM_letSlip 28 = .ok (.lstore 7, 2) := by decide +kernel
theorem dM_letSlip_30 : decode bM_letSlip 30 = .ok (.aload_n 0, 1) := by decide +kernel
theorem dM_letSlip_31 : decode bM_letSlip 31 = .ok (.iload_n 1, 1) := by decide +kernel
theorem dM_letSlip_32 : decode bM_letSlip 32 = .ok (.iload_n 2, 1) := by decide +kernel
theorem dM_letSlip_33 : decode bM_letSlip 33 = .ok (.lload 7, 2) := by decide +kernel
theorem dM_letSlip_35 : decode bM_letSlip 35 = .ok (.invokevirtual 123, 3) := by decide +kernel
theorem dM_letSlip_38 : decode bM_letSlip 38 = .ok (.aload_n 0, 1) := by decide +kernel
theorem dM_letSlip_39 : decode bM_letSlip 39 = .ok (.getfield 72, 3) := by decide +kernel
theorem dM_letSlip_42 : decode bM_letSlip 42 = .ok (.i2l, 1) := by decide +kernel
theorem dM_letSlip_43 : decode bM_letSlip 43 = .ok (.lcmp, 1) := by decide +kernel
theorem dM_letSlip_44 : decode bM_letSlip 44 = .ok (.ifCond .lt 9, 3) := by decide +kernel
theorem dM_letSlip_47 : decode bM_letSlip 47 = .ok (.lload 7, 2) := by decide +kernel
theorem dM_letSlip_49 : decode bM_letSlip 49 = .ok (.lstore_n 3, 1) := by decide +kernel
theorem dM_letSlip_50 : decode bM_letSlip 50 = .ok (.goto 9, 3) := by decide +kernel
theorem dM_letSlip_53 : decode bM_letSlip 53 = .ok (.lload 7, 2) := by decide +kernel
theorem dM_letSlip_55 : decode bM_letSlip 55 = .ok (.lconst 1, 1) := by decide +kernel
theorem dM_letSlip_56 : decode bM_letSlip 56 = .ok (.lsub, 1) := by decide +kernel
theorem dM_letSlip_57 : decode bM_letSlip 57 = .ok (.lstore 5, 2) := by decide +kernel
theorem dM_letSlip_59 : decode bM_letSlip 59 = .ok (.goto (-48), 3) := by decide +kernel
theorem dM_letSlip_62 : decode bM_letSlip 62 = .ok (.aload_n 0, 1) := by decide +kernel
theorem dM_letSlip_63 : decode bM_letSlip 63 = .ok (.iload_n 1, 1) := by decide +kernel
theorem dM_letSlip_64 : decode bM_letSlip 64 = .ok (.iload_n 2, 1) := by decide +kernel
theorem dM_letSlip_65 : decode bM_letSlip 65 = .ok (.lload_n 3, 1) := by decide +kernel
theorem dM_letSlip_66 : decode bM_letSlip 66 = .ok (.invokevirtual 123, 3) := by decide +kernel
theorem dM_letSlip_69 : decode bM_letSlip 69 = .ok (.lstore 7, 2) := by decide +kernel
theorem dM_letSlip_71 : decode bM_letSlip 71 = .ok (.iconst 0, 1) := by decide +kernel
theorem dM_letSlip_72 : decode bM_letSlip 72 = .ok (.istore 9, 2) := by decide +kernel
theorem dM_letSlip_74 : decode bM_letSlip 74 = .ok (.iload 9, 2) := by decide +kernel
theorem dM_letSlip_76 : decode bM_letSlip 76 = .ok (.aload_n 0, 1) := by decide +kernel
theorem dM_letSlip_77 : decode bM_letSlip 77 = .ok (.getfield 13, 3) := by decide +kernel
theorem dM_letSlip_80 : decode bM_letSlip 80 = .ok (.iload_n 1, 1) := by decide +kernel
theorem dM_letSlip_81 : decode bM_letSlip 81 = .ok (.iaload, 1) := by decide +kernel
theorem dM_letSlip_82 : decode bM_letSlip 82 = .ok (.if_icmp .ge 28, 3) := by decide +kernel
theorem dM_letSlip_85 : decode bM_letSlip 85 = .ok (.aload_n 0, 1) := by decide +kernel
theorem dM_letSlip_86 : decode bM_letSlip 86 = .ok (.getfield 31, 3) := by decide +kernel
theorem dM_letSlip_89 : decode bM_letSlip 89 = .ok (.bipush 10, 2) := by decide +kernel
theorem dM_letSlip_91 : decode bM_letSlip 91 = .ok (.iload_n 1, 1) := by decide +kernel
theorem dM_letSlip_92 : decode bM_letSlip 92 = .ok (.imul, 1) := by decide +kernel
theorem dM_letSlip_93 : decode bM_letSlip 93 = .ok (.iload 9, 2) := by decide +kernel
theorem dM_letSlip_95 : decode bM_letSlip 95 = .ok (.iadd, 1) := by decide +kernel
theorem dM_letSlip_96 : decode bM_letSlip 96 = .ok (.aload_n 0, 1) := by decide +kernel
theorem dM_letSlip_97 : decode bM_letSlip 97 = .ok (.getfield 51, 3) := by decide +kernel
theorem dM_letSlip_100 : decode bM_letSlip 100 = .ok (.iload 9, 2) := by decide +kernel
theorem dM_letSlip_102 : decode bM_letSlip 102 = .ok (.laload, 1) := by decide +kernel
theorem dM_letSlip_103 : decode bM_letSlip 103 = .ok (.lastore, 1) := by decide +kernel
theorem dM_letSlip_104 : decode bM_letSlip 104 = .ok (.iinc 9 1, 3) := by decide +kernel
theorem dM_letSlip_107 : decode bM_letSlip 107 = .ok (.goto (-33), 3) := by decide +kernel
theorem dM_letSlip_110 : decode bM_letSlip 110 = .ok (.return_, 1) := by decide +kernel
theorem dM_lock_0 : decode bM_lock 0 = .ok (.aload_n 0, 1) := by decide +kernel
theorem dM_lock_1 : decode bM_lock 1 = .ok (.iload_n 1, 1) := by decide +kernel
theorem dM_lock_2 : decode bM_lock 2 = .ok (.invokevirtual 67, 3) := by decide +kernel
theorem dM_lock_5 : decode bM_lock 5 = .ok (.ifCond .eq 13, 3) := by decide +kernel
theorem dM_lock_8 : decode bM_lock 8 = .ok (.aload_n 0, 1) := by decide +kernel
theorem dM_lock_9 : decode bM_lock 9 = .ok (.getfield 16, 3) := by decide +kernel
theorem dM_lock_12 : decode bM_lock 12 = .ok (.iload_n 1, 1) := by decide +kernel
theorem dM_lock_13 : decode bM_lock 13 = .ok (.iaload, 1) := by decide +kernel
theorem dM_lock_14 : decode bM_lock 14 = .ok (.iconst 1, 1) := by decide +kernel
theorem dM_lock_15 : decode bM_lock 15 = .ok (.if_icmp .eq 5, 3) := by decide +kernel
theorem dM_lock_18 : decode bM_lock 18 = .ok (.iconst (-1), 1) := by decide +kernel
theorem dM_lock_19 : decode bM_lock 19 = .ok (.ireturn, 1) := by decide +kernel
theorem dM_lock_20 : decode bM_lock 20 = .ok (.aload_n 0, 1) := by decide +kernel
theorem dM_lock_21 : decode bM_lock 21 = .ok (.iload_n 1, 1) := by decide +kernel
theorem dM_lock_22 : decode bM_lock 22 = .ok (.invokevirtual 119, 3) := by decide +kernel
theorem dM_lock_25 : decode bM_lock 25 = .ok (.istore_n 2, 1) := by decide +kernel
theorem dM_lock_26 : decode bM_lock 26 = .ok (.aload_n 0, 1) := by decide +kernel
theorem dM_lock_27 : decode bM_lock 27 = .ok (.getfield 19, 3) := by decide +kernel
theorem dM_lock_30 : decode bM_lock 30 = .ok (.iload_n 1, 1) := by decide +kernel
theorem dM_lock_31 : decode bM_lock 31 = .ok (.iaload, 1) := by decide +kernel
theorem dM_lock_32 : decode bM_lock 32 = .ok (.iconst 2, 1) := by decide +kernel
theorem dM_lock_33 : decode bM_lock 33 = .ok (.if_icmp .eq 9, 3) := by decide +kernel
theorem dM_lock_36 : decode bM_lock 36 = .ok (.aload_n 0, 1) := by decide +kernel
theorem dM_lock_37 : decode bM_lock 37 = .ok (.iload_n 1, 1) := by decide +kernel
theorem dM_lock_38 : decode bM_lock 38 = .ok (.iconst 0, 1) := by decide +kernel
theorem dM_lock_39 : decode bM_lock 39 = .ok (.invokevirtual 127, 3) := by decide +kernel
theorem dM_lock_42 : decode bM_lock 42 = .ok (.aload_n 0, 1) := by decide +kernel
theorem dM_lock_43 : decode bM_lock 43 = .ok (.getfield 19, 3) := by decide +kernel
theorem dM_lock_46 : decode bM_lock 46 = .ok (.iload_n 1, 1) := by decide +kernel
theorem dM_lock_47 : decode bM_lock 47 = .ok (.iaload, 1) := by decide +kernel
theorem dM_lock_48 : decode bM_lock 48 = .ok (.iconst 1, 1) := by decide +kernel
theorem dM_lock_49 : decode bM_lock 49 = .ok (.if_icmp .eq 9, 3) := by decide +kernel
theorem dM_lock_52 : decode bM_lock 52 = .ok (.aload_n 0, 1) := by decide +kernel
theorem dM_lock_53 : decode bM_lock 53 = .ok (.iload_n 1, 1) := by decide +kernel
theorem dM_lock_54 : decode bM_lock 54 = .ok (.iconst 1, 1) := by decide +kernel
theorem dM_lock_55 : decode bM_lock 55 = .ok (.invokevirtual 127, 3) := by decide +kernel
theorem dM_lock_58 : decode bM_lock 58 = .ok (.lconst 0, 1) := by decide +kernel
theorem dM_lock_59 : decode bM_lock 59 = .ok (.lstore_n 3, 1) := by decide +kernel
theorem dM_lock_60 : decode bM_lock 60 = .ok (.iconst 0, 1) := by decide +kernel
theorem dM_lock_61 : decode bM_lock 61 = .ok (.istore 5, 2) := by decide +kernel
theorem dM_lock_63 : decode bM_lock 63 = .ok (.iload 5, 2) := by decide +kernel
theorem dM_lock_65 : decode bM_lock 65 = .ok (.aload_n 0, 1) := by decide +kernel
theorem dM_lock_66 : decode bM_lock 66 = .ok (.getfield 13, 3) := by decide +kernel
theorem dM_lock_69 : decode bM_lock 69 = .ok (.iload_n 1, 1) := by decide +kernel
theorem dM_lock_70 : decode bM_lock 70 = .ok (.iaload, 1) := by decide +kernel
theorem dM_lock_71 : decode bM_lock 71 = .ok (.if_icmp .ge 24, 3) := by decide +kernel
theorem dM_lock_74 : decode bM_lock 74 = .ok (.lload_n 3, 1) := by decide +kernel
theorem dM_lock_75 : decode bM_lock 75 = .ok (.aload_n 0, 1) := by decide +kernel
theorem dM_lock_76 : decode bM_lock 76 = .ok (.getfield 31, 3) := by decide +kernel
theorem dM_lock_79 : decode bM_lock 79 = .ok (.bipush 10, 2) := by decide +kernel
theorem dM_lock_81 : decode bM_lock 81 = .ok (.iload_n 1, 1) := by decide +kernel
theorem dM_lock_82 : decode bM_lock 82 = .ok (.imul, 1) := by decide +kernel
theorem dM_lock_83 : decode bM_lock 83 = .ok (.iload 5, 2) := by decide +kernel
theorem dM_lock_85 : decode bM_lock 85 = .ok (.iadd, 1) := by decide +kernel
theorem dM_lock_86 : decode bM_lock 86 = .ok (.laload, 1) := by decide +kernel
theorem dM_lock_87 : decode bM_lock 87 = .ok (.ladd, 1) := by decide +kernel
theorem dM_lock_88 : decode bM_lock 88 = .ok (.lstore_n 3, 1) := by decide +kernel
theorem dM_lock_89 : decode bM_lock 89 = .ok (.iinc 5 1, 3) := by decide +kernel
theorem dM_lock_92 : decode bM_lock 92 = .ok (.goto (-29), 3) := by decide +kernel
theorem dM_lock_95 : decode bM_lock 95 = .ok (.lload_n 3, 1) := by decide +kernel
theorem dM_lock_96 : decode bM_lock 96 = .ok (.aload_n 0, 1) := by decide +kernel
theorem dM_lock_97 : decode bM_lock 97 = .ok (.getfield 13, 3) := by decide +kernel
theorem dM_lock_100 : decode bM_lock 100 = .ok (.iload_n 1, 1) := by decide +kernel
theorem dM_lock_101 : decode bM_lock 101 = .ok (.iaload, 1) := by decide +kernel
theorem dM_lock_102 : decode bM_lock 102 = .ok (.i2l, 1) := by decide +kernel
theorem dM_lock_103 : decode bM_lock 103 = .ok (.ldiv, 1) := by decide +kernel
theorem dM_lock_104 : decode bM_lock 104 = .ok (.aload_n 0, 1) := by decide +kernel
theorem dM_lock_105 : decode bM_lock 105 = .ok (.getfield 45, 3) := by decide +kernel
theorem dM_lock_108 : decode bM_lock 108 = .ok (.i2l, 1) := by decide +kernel
theorem dM_lock_109 : decode bM_lock 109 = .ok (.lmul, 1) := by decide +kernel
theorem dM_lock_110 : decode bM_lock 110 = .ok (.ldc2_w 110, 3) := by decide +kernel
theorem dM_lock_113 : decode bM_lock 113 = .ok (.ldiv, 1) := by decide +kernel
theorem dM_lock_114 : decode bM_lock 114 = .ok (.lstore 5, 2) := by decide +kernel
theorem dM_lock_116 : decode bM_lock 116 = .ok (.iconst 0, 1) := by decide +kernel
theorem dM_lock_117 : decode bM_lock 117 = .ok (.istore 7, 2) := by decide +kernel
theorem dM_lock_119 : decode bM_lock 119 = .ok (.iload 7, 2) := by decide +kernel
theorem dM_lock_121 : decode bM_lock 121 = .ok (.aload_n 0, 1) := by decide +kernel
theorem dM_lock_122 : decode bM_lock 122 = .ok (.getfield 131, 3) := by decide +kernel
theorem dM_lock_125 : decode bM_lock 125 = .ok (.if_icmp .ge 84, 3) := by decide +kernel
theorem dM_lock_128 : decode bM_lock 128 = .ok (.iconst 0, 1) := by decide +kernel
theorem dM_lock_129 : decode bM_lock 129 = .ok (.istore 8, 2) := by decide +kernel
theorem dM_lock_131 : decode bM_lock 131 = .ok (.iload 8, 2) := by decide +kernel
theorem dM_lock_133 : decode bM_lock 133 = .ok (.aload_n 0, 1) := by decide +kernel
theorem dM_lock_134 : decode bM_lock 134 = .ok (.getfield 13, 3) := by decide +kernel
theorem dM_lock_137 : decode bM_lock 137 = .ok (.aload_n 0, 1) := by decide +kernel
theorem dM_lock_138 : decode bM_lock 138 = .ok (.getfield 35, 3) := by decide +kernel
theorem dM_lock_141 : decode bM_lock 141 = .ok (.iload 7, 2) := by decide +kernel
theorem dM_lock_143 : decode bM_lock 143 = .ok (.iaload, 1) := by decide +kernel
theorem dM_lock_144 : decode bM_lock 144 = .ok (.iaload, 1) := by decide +kernel
theorem dM_lock_145 : decode bM_lock 145 = .ok (.if_icmp .ge 58, 3) := by decide +kernel
theorem dM_lock_148 : decode bM_lock 148 = .ok (.bipush 10, 2) := by decide +kernel
theorem dM_lock_150 : decode bM_lock 150 = .ok (.aload_n 0, 1) := by decide +kernel
theorem dM_lock_151 : decode bM_lock 151 = .ok (.getfield 35, 3) := by decide +kernel
theorem dM_lock_154 : decode bM_lock 154 = .ok (.iload 7, 2) := by decide +kernel
theorem dM_lock_156 : decode bM_lock 156 = .ok (.iaload, 1) := by decide +kernel
theorem dM_lock_157 : decode bM_lock 157 = .ok (.imul, 1) := by decide +kernel
theorem dM_lock_158 : decode bM_lock 158 = .ok (.iload 8, 2) := by decide +kernel
theorem dM_lock_160 : decode bM_lock 160 = .ok (.iadd, 1) := by decide +kernel
theorem dM_lock_161 : decode bM_lock 161 = .ok (.istore 9, 2) := by decide +kernel
theorem dM_lock_163 : decode bM_lock 163 = .ok (.aload_n 0, 1) := by decide +kernel
theorem dM_lock_164 : decode bM_lock 164 = .ok (.getfield 31, 3) := by decide +kernel
theorem dM_lock_167 : decode bM_lock 167 = .ok (.iload 9, 2) := by decide +kernel
theorem dM_lock_169 : decode bM_lock 169 = .ok (.aload_n 0, 1) := by decide +kernel
theorem dM_lock_170 : decode bM_lock 170 = .ok (.getfield 31, 3) := by decide +kernel
theorem dM_lock_173 : decode bM_lock 173 = .ok (.iload 9, 2) := by decide +kernel
theorem dM_lock_175 : decode bM_lock 175 = .ok (.laload, 1) := by decide +kernel
theorem dM_lock_176 : decode bM_lock 176 = .ok (.lload 5, 2) := by decide +kernel
theorem dM_lock_178 : decode bM_lock 178 = .ok (.lcmp, 1) := by decide +kernel
theorem dM_lock_179 : decode bM_lock 179 = .ok (.ifCond .ge 7, 3) := by decide +kernel
theorem dM_lock_182 : decode bM_lock 182 = .ok (.lconst 0, 1) := by decide +kernel
theorem dM_lock_183 : decode bM_lock 183 = .ok (.goto 13, 3) := by decide +kernel
theorem dM_lock_186 : decode bM_lock 186 = .ok (.aload_n 0, 1) := by decide +kernel
theorem dM_lock_187 : decode bM_lock 187 = .ok (.getfield 31, 3) := by decide +kernel
theorem dM_lock_190 : decode bM_lock 190 = .ok (.iload 9, 2) := by decide +kernel
theorem dM_lock_192 : decode bM_lock 192 = .ok (.laload, 1) := by decide +kernel
theorem dM_lock_193 : decode bM_lock 193 = .ok (.lload 5, 2) := by decide +kernel
theorem dM_lock_195 : decode bM_lock 195 = .ok (.lsub, 1) := by decide +kernel
theorem dM_lock_196 : decode bM_lock 196 = .ok (.lastore, 1) := by decide +kernel
theorem dM_lock_197 : decode bM_lock 197 = .ok (.iinc 8 1, 3) := by decide +kernel
theorem dM_lock_200 : decode bM_lock 200 = .ok (.goto (-69), 3) := by decide +kernel
theorem dM_lock_203 : decode bM_lock 203 = .ok (.iinc 7 1, 3) := by decide +kernel
theorem dM_lock_206 : decode bM_lock 206 = .ok (.goto (-87), 3) := by decide +kernel
theorem dM_lock_209 : decode bM_lock 209 = .ok (.aload_n 0, 1) := by decide +kernel
theorem dM_lock_210 : decode bM_lock 210 = .ok (.getfield 16, 3) := by decide +kernel
theorem dM_lock_213 : decode bM_lock 213 = .ok (.iload_n 1, 1) := by decide +kernel
theorem dM_lock_214 : decode bM_lock 214 = .ok (.iconst 2, 1) := by decide +kernel
theorem dM_lock_215 : decode bM_lock 215 = .ok (.iastore, 1) := by decide +kernel
theorem dM_lock_216 : decode bM_lock 216 = .ok (.aload_n 0, 1) := by decide +kernel
theorem dM_lock_217 : decode bM_lock 217 = .ok (.getfield 35, 3) := by decide +kernel
theorem dM_lock_220 : decode bM_lock 220 = .ok (.aload_n 0, 1) := by decide +kernel
theorem dM_lock_221 : decode bM_lock 221 = .ok (.getfield 131, 3) := by decide +kernel
theorem dM_lock_224 : decode bM_lock 224 = .ok (.iload_n 1, 1) := by decide +kernel
theorem dM_lock_225 : decode bM_lock 225 = .ok (.iastore, 1) := by decide +kernel
theorem dM_lock_226 : decode bM_lock 226 = .ok (.aload_n 0, 1) := by decide +kernel
theorem dM_lock_227 : decode bM_lock 227 = .ok (.dup, 1) := by decide +kernel
theorem dM_lock_228 : decode bM_lock 228 = .ok (.getfield 131, 3) := by decide +kernel
theorem dM_lock_231 : decode bM_lock 231 = .ok (.iconst 1, 1) := by decide +kernel
theorem dM_lock_232 : decode bM_lock 232 = .ok (.iadd, 1) := by decide +kernel
theorem dM_lock_233 : decode bM_lock 233 = .ok (.putfield 131, 3) := by decide +kernel
theorem dM_lock_236 : decode bM_lock 236 = .ok (.iload_n 2, 1) := by decide +kernel
theorem dM_lock_237 : decode bM_lock 237 = .ok (.aload_n 0, 1) := by decide +kernel
theorem dM_lock_238 : decode bM_lock 238 = .ok (.iload_n 1, 1) := by decide +kernel
theorem dM_lock_239 : decode bM_lock 239 = .ok (.invokevirtual 119, 3) := by decide +kernel
theorem dM_lock_242 : decode bM_lock 242 = .ok (.isub, 1) := by decide +kernel
theorem dM_lock_243 : decode bM_lock 243 = .ok (.ireturn, 1) := by decide +kernel
theorem dM_cut_0 : decode bM_cut 0 = .ok (.aload_n 0, 1) := by decide +kernel
theorem dM_cut_1 : decode bM_cut 1 = .ok (.iload_n 1, 1) := by decide +kernel
theorem dM_cut_2 : decode bM_cut 2 = .ok (.invokevirtual 134, 3) := by decide +kernel
theorem dM_cut_5 : decode bM_cut 5 = .ok (.ifCond .ne 5, 3) := by decide +kernel
theorem dM_cut_8 : decode bM_cut 8 = .ok (.iconst 0, 1) := by decide +kernel
theorem dM_cut_9 : decode bM_cut 9 = .ok (.ireturn, 1) := by decide +kernel
theorem dM_cut_10 : decode bM_cut 10 = .ok (.iconst 0, 1) := by decide +kernel
theorem dM_cut_11 : decode bM_cut 11 = .ok (.istore_n 2, 1) := by decide +kernel
theorem dM_cut_12 : decode bM_cut 12 = .ok (.iconst 0, 1) := by decide +kernel
theorem dM_cut_13 : decode bM_cut 13 = .ok (.istore_n 3, 1) := by decide +kernel
theorem dM_cut_14 : decode bM_cut 14 = .ok (.iload_n 3, 1) := by decide +kernel
theorem dM_cut_15 : decode bM_cut 15 = .ok (.aload_n 0, 1) := by decide +kernel
theorem dM_cut_16 : decode bM_cut 16 = .ok (.getfield 131, 3) := by decide +kernel
theorem dM_cut_19 : decode bM_cut 19 = .ok (.if_icmp .ge 34, 3) := by decide +kernel
theorem dM_cut_22 : decode bM_cut 22 = .ok (.aload_n 0, 1) := by decide +kernel
theorem dM_cut_23 : decode bM_cut 23 = .ok (.getfield 35, 3) := by decide +kernel
theorem dM_cut_26 : decode bM_cut 26 = .ok (.iload_n 3, 1) := by decide +kernel
theorem dM_cut_27 : decode bM_cut 27 = .ok (.iaload, 1) := by decide +kernel
theorem dM_cut_28 : decode bM_cut 28 = .ok (.iload_n 1, 1) := by decide +kernel
theorem dM_cut_29 : decode bM_cut 29 = .ok (.if_icmp .eq 18, 3) := by decide +kernel
theorem dM_cut_32 : decode bM_cut 32 = .ok (.aload_n 0, 1) := by decide +kernel
theorem dM_cut_33 : decode bM_cut 33 = .ok (.getfield 35, 3) := by decide +kernel
theorem dM_cut_36 : decode bM_cut 36 = .ok (.iload_n 2, 1) := by decide +kernel
theorem dM_cut_37 : decode bM_cut 37 = .ok (.aload_n 0, 1) := by decide +kernel
theorem dM_cut_38 : decode bM_cut 38 = .ok (.getfield 35, 3) := by decide +kernel
theorem dM_cut_41 : decode bM_cut 41 = .ok (.iload_n 3, 1) := by decide +kernel
theorem dM_cut_42 : decode bM_cut 42 = .ok (.iaload, 1) := by decide +kernel
theorem dM_cut_43 : decode bM_cut 43 = .ok (.iastore, 1) := by decide +kernel
theorem dM_cut_44 : decode bM_cut 44 = .ok (.iinc 2 1, 3) := by decide +kernel
theorem dM_cut_47 : decode bM_cut 47 = .ok (.iinc 3 1, 3) := by decide +kernel
theorem dM_cut_50 : decode bM_cut 50 = .ok (.goto (-36), 3) := by decide +kernel
theorem dM_cut_53 : decode bM_cut 53 = .ok (.aload_n 0, 1) := by decide +kernel
theorem dM_cut_54 : decode bM_cut 54 = .ok (.iload_n 2, 1) := by decide +kernel
theorem dM_cut_55 : decode bM_cut 55 = .ok (.putfield 131, 3) := by decide +kernel
theorem dM_cut_58 : decode bM_cut 58 = .ok (.aload_n 0, 1) := by decide +kernel
theorem dM_cut_59 : decode bM_cut 59 = .ok (.getfield 16, 3) := by decide +kernel
theorem dM_cut_62 : decode bM_cut 62 = .ok (.iload_n 1, 1) := by decide +kernel
theorem dM_cut_63 : decode bM_cut 63 = .ok (.iconst 0, 1) := by decide +kernel
theorem dM_cut_64 : decode bM_cut 64 = .ok (.iastore, 1) := by decide +kernel
theorem dM_cut_65 : decode bM_cut 65 = .ok (.iconst 1, 1) := by decide +kernel
theorem dM_cut_66 : decode bM_cut 66 = .ok (.ireturn, 1) := by decide +kernel
theorem dM_days_0 : decode bM_days 0 = .ok (.iload_n 1, 1) := by decide +kernel
theorem dM_days_1 : decode bM_days 1 = .ok (.iconst 1, 1) := by decide +kernel
theorem dM_days_2 : decode bM_days 2 = .ok (.sipush 1000, 3) := by decide +kernel
theorem dM_days_5 : decode bM_days 5 = .ok (.invokestatic 63, 3) := by decide +kernel
theorem dM_days_8 : decode bM_days 8 = .ok (.ifCond .ne 5, 3) := by decide +kernel
theorem dM_days_11 : decode bM_days 11 = .ok (.iconst (-1), 1) := by decide +kernel
theorem dM_days_12 : decode bM_days 12 = .ok (.ireturn, 1) := by decide +kernel
theorem dM_days_13 : decode bM_days 13 = .ok (.iconst 0, 1) := by decide +kernel
theorem dM_days_14 : decode bM_days 14 = .ok (.istore_n 2, 1) := by decide +kernel
theorem dM_days_15 : decode bM_days 15 = .ok (.iload_n 2, 1) := by decide +kernel
theorem dM_days_16 : decode bM_days 16 = .ok (.iload_n 1, 1) := by decide +kernel
theorem dM_days_17 : decode bM_days 17 = .ok (.if_icmp .ge 96, 3) := by decide +kernel
theorem dM_days_20 : decode bM_days 20 = .ok (.iconst 0, 1) := by decide +kernel
theorem dM_days_21 : decode bM_days 21 = .ok (.istore_n 3, 1) := by decide +kernel
theorem dM_days_22 : decode bM_days 22 = .ok (.iload_n 3, 1) := by decide +kernel
theorem dM_days_23 : decode bM_days 23 = .ok (.aload_n 0, 1) := by decide +kernel
theorem dM_days_24 : decode bM_days 24 = .ok (.getfield 131, 3) := by decide +kernel
theorem dM_days_27 : decode bM_days 27 = .ok (.if_icmp .ge 80, 3) := by decide +kernel
theorem dM_days_30 : decode bM_days 30 = .ok (.iconst 0, 1) := by decide +kernel
theorem dM_days_31 : decode bM_days 31 = .ok (.istore 4, 2) := by decide +kernel
theorem dM_days_33 : decode bM_days 33 = .ok (.iload 4, 2) := by decide +kernel
theorem dM_days_35 : decode bM_days 35 = .ok (.aload_n 0, 1) := by decide +kernel
theorem dM_days_36 : decode bM_days 36 = .ok (.getfield 13, 3) := by decide +kernel
theorem dM_days_39 : decode bM_days 39 = .ok (.aload_n 0, 1) := by decide +kernel
theorem dM_days_40 : decode bM_days 40 = .ok (.getfield 35, 3) := by decide +kernel
theorem dM_days_43 : decode bM_days 43 = .ok (.iload_n 3, 1) := by decide +kernel
theorem dM_days_44 : decode bM_days 44 = .ok (.iaload, 1) := by decide +kernel
theorem dM_days_45 : decode bM_days 45 = .ok (.iaload, 1) := by decide +kernel
theorem dM_days_46 : decode bM_days 46 = .ok (.if_icmp .ge 55, 3) := by decide +kernel
theorem dM_days_49 : decode bM_days 49 = .ok (.bipush 10, 2) := by decide +kernel
theorem dM_days_51 : decode bM_days 51 = .ok (.aload_n 0, 1) := by decide +kernel
theorem dM_days_52 : decode bM_days 52 = .ok (.getfield 35, 3) := by decide +kernel
theorem dM_days_55 : decode bM_days 55 = .ok (.iload_n 3, 1) := by decide +kernel
theorem dM_days_56 : decode bM_days 56 = .ok (.iaload, 1) := by decide +kernel
theorem dM_days_57 : decode bM_days 57 = .ok (.imul, 1) := by decide +kernel
theorem dM_days_58 : decode bM_days 58 = .ok (.iload 4, 2) := by decide +kernel
theorem dM_days_60 : decode bM_days 60 = .ok (.iadd, 1) := by decide +kernel
theorem dM_days_61 : decode bM_days 61 = .ok (.istore 5, 2) := by decide +kernel
theorem dM_days_63 : decode bM_days 63 = .ok (.aload_n 0, 1) := by decide +kernel
theorem dM_days_64 : decode bM_days 64 = .ok (.getfield 31, 3) := by decide +kernel
theorem dM_days_67 : decode bM_days 67 = .ok (.iload 5, 2) := by decide +kernel
theorem dM_days_69 : decode bM_days 69 = .ok (.aload_n 0, 1) := by decide +kernel
theorem dM_days_70 : decode bM_days 70 = .ok (.getfield 31, 3) := by decide +kernel
theorem dM_days_73 : decode bM_days 73 = .ok (.iload 5, 2) := by decide +kernel
theorem dM_days_75 : decode bM_days 75 = .ok (.laload, 1) := by decide +kernel
theorem dM_days_76 : decode bM_days 76 = .ok (.aload_n 0, 1) := by decide +kernel
theorem dM_days_77 : decode bM_days 77 = .ok (.getfield 31, 3) := by decide +kernel
theorem dM_days_80 : decode bM_days 80 = .ok (.iload 5, 2) := by decide +kernel
theorem dM_days_82 : decode bM_days 82 = .ok (.laload, 1) := by decide +kernel
theorem dM_days_83 : decode bM_days 83 = .ok (.aload_n 0, 1) := by decide +kernel
theorem dM_days_84 : decode bM_days 84 = .ok (.getfield 48, 3) := by decide +kernel
theorem dM_days_87 : decode bM_days 87 = .ok (.i2l, 1) := by decide +kernel
theorem dM_days_88 : decode bM_days 88 = .ok (.lmul, 1) := by decide +kernel
theorem dM_days_89 : decode bM_days 89 = .ok (.ldc2_w 89, 3) := by decide +kernel
theorem dM_days_92 : decode bM_days 92 = .ok (.ldiv, 1) := by decide +kernel
theorem dM_days_93 : decode bM_days 93 = .ok (.lsub, 1) := by decide +kernel
theorem dM_days_94 : decode bM_days 94 = .ok (.lastore, 1) := by decide +kernel
theorem dM_days_95 : decode bM_days 95 = .ok (.iinc 4 1, 3) := by decide +kernel
theorem dM_days_98 : decode bM_days 98 = .ok (.goto (-65), 3) := by decide +kernel
theorem dM_days_101 : decode bM_days 101 = .ok (.iinc 3 1, 3) := by decide +kernel
theorem dM_days_104 : decode bM_days 104 = .ok (.goto (-82), 3) := by decide +kernel
theorem dM_days_107 : decode bM_days 107 = .ok (.iinc 2 1, 3) := by decide +kernel
theorem dM_days_110 : decode bM_days 110 = .ok (.goto (-95), 3) := by decide +kernel
theorem dM_days_113 : decode bM_days 113 = .ok (.aload_n 0, 1) := by decide +kernel
theorem dM_days_114 : decode bM_days 114 = .ok (.aload_n 0, 1) := by decide +kernel
theorem dM_days_115 : decode bM_days 115 = .ok (.getfield 137, 3) := by decide +kernel
theorem dM_days_118 : decode bM_days 118 = .ok (.iload_n 1, 1) := by decide +kernel
theorem dM_days_119 : decode bM_days 119 = .ok (.iadd, 1) := by decide +kernel
theorem dM_days_120 : decode bM_days 120 = .ok (.putfield 137, 3) := by decide +kernel
theorem dM_days_123 : decode bM_days 123 = .ok (.aload_n 0, 1) := by decide +kernel
theorem dM_days_124 : decode bM_days 124 = .ok (.getfield 137, 3) := by decide +kernel
theorem dM_days_127 : decode bM_days 127 = .ok (.ireturn, 1) := by decide +kernel
theorem dM_force_0 : decode bM_force 0 = .ok (.aload_n 0, 1) := by decide +kernel
theorem dM_force_1 : decode bM_force 1 = .ok (.iload_n 1, 1) := by decide +kernel
theorem dM_force_2 : decode bM_force 2 = .ok (.invokevirtual 134, 3) := by decide +kernel
theorem dM_force_5 : decode bM_force 5 = .ok (.ifCond .eq 34, 3) := by decide +kernel
theorem dM_force_8 : decode bM_force 8 = .ok (.iload_n 2, 1) := by decide +kernel
theorem dM_force_9 : decode bM_force 9 = .ok (.iconst 0, 1) := by decide +kernel
theorem dM_force_10 : decode bM_force 10 = .ok (.aload_n 0, 1) := by decide +kernel
theorem dM_force_11 : decode bM_force 11 = .ok (.getfield 13, 3) := by decide +kernel
theorem dM_force_14 : decode bM_force 14 = .ok (.iload_n 1, 1) := by decide +kernel
theorem dM_force_15 : decode bM_force 15 = .ok (.iaload, 1) := by decide +kernel
theorem dM_force_16 : decode bM_force 16 = .ok (.iconst 1, 1) := by decide +kernel
theorem dM_force_17 : decode bM_force 17 = .ok (.isub, 1) := by decide +kernel
theorem dM_force_18 : decode bM_force 18 = .ok (.invokestatic 63, 3) := by decide +kernel
theorem dM_force_21 : decode bM_force 21 = .ok (.ifCond .eq 18, 3) := by decide +kernel
theorem dM_force_24 : decode bM_force 24 = .ok (.aload_n 0, 1) := by decide +kernel
theorem dM_force_25 : decode bM_force 25 = .ok (.getfield 31, 3) := by decide +kernel
theorem dM_force_28 : decode bM_force 28 = .ok (.bipush 10, 2) := by decide +kernel
theorem dM_force_30 : decode bM_force 30 = .ok (.iload_n 1, 1) := by decide +kernel
theorem dM_force_31 : decode bM_force 31 = .ok (.imul, 1) := by decide +kernel
theorem dM_force_32 : decode bM_force 32 = .ok (.iload_n 2, 1) := by decide +kernel
theorem dM_force_33 : decode bM_force 33 = .ok (.iadd, 1) := by decide +kernel
theorem dM_force_34 : decode bM_force 34 = .ok (.laload, 1) := by decide +kernel
theorem dM_force_35 : decode bM_force 35 = .ok (.l2i, 1) := by decide +kernel
theorem dM_force_36 : decode bM_force 36 = .ok (.goto 4, 3) := by decide +kernel
theorem dM_force_39 : decode bM_force 39 = .ok (.iconst (-1), 1) := by decide +kernel
theorem dM_force_40 : decode bM_force 40 = .ok (.ireturn, 1) := by decide +kernel
theorem dM_at_0 : decode bM_at 0 = .ok (.aload_n 0, 1) := by decide +kernel
theorem dM_at_1 : decode bM_at 1 = .ok (.iload_n 1, 1) := by decide +kernel
theorem dM_at_2 : decode bM_at 2 = .ok (.invokevirtual 134, 3) := by decide +kernel
theorem dM_at_5 : decode bM_at 5 = .ok (.ifCond .ne 5, 3) := by decide +kernel
theorem dM_at_8 : decode bM_at 8 = .ok (.iconst (-1), 1) := by decide +kernel
theorem dM_at_9 : decode bM_at 9 = .ok (.ireturn, 1) := by decide +kernel
theorem dM_at_10 : decode bM_at 10 = .ok (.iconst 0, 1) := by decide +kernel
theorem dM_at_11 : decode bM_at 11 = .ok (.istore_n 3, 1) := by decide +kernel
theorem dM_at_12 : decode bM_at 12 = .ok (.iload_n 3, 1) := by decide +kernel
theorem dM_at_13 : decode bM_at 13 = .ok (.iconst 1, 1) := by decide +kernel
theorem dM_at_14 : decode bM_at 14 = .ok (.iadd, 1) := by decide +kernel
theorem dM_at_15 : decode bM_at 15 = .ok (.aload_n 0, 1) := by decide +kernel
theorem dM_at_16 : decode bM_at 16 = .ok (.getfield 13, 3) := by decide +kernel
theorem dM_at_19 : decode bM_at 19 = .ok (.iload_n 1, 1) := by decide +kernel
