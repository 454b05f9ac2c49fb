theorem kw_1 : Cond.selects "TendonLosses$Duct" yD_measurePiece yD_measurePiece ∈ gt := gt_in (List.mem_of_getElem? (i := 1) (by decide +kernel)) rfl
theorem kw_2 : Cond.selects "TendonLosses$Tendon" yT_strain yT_strain ∈ gt := gt_in (List.mem_of_getElem? (i := 2) (by decide +kernel)) rfl
theorem kw_3 : Cond.selects "TendonLosses$Tendon" yT_strainFromEnd yT_strainFromEnd ∈ gt := gt_in (List.mem_of_getElem? (i := 3) (by decide +kernel)) rfl
theorem kw_4 : Cond.selects "TendonLosses$Tendon" yT_stretchOf yT_stretchOf ∈ gt := gt_in (List.mem_of_getElem? (i := 4) (by decide +kernel)) rfl
theorem kw_5 : Cond.selects "TendonLosses$Tendon" yT_slipAtEnd yT_slipAtEnd ∈ gt := gt_in (List.mem_of_getElem? (i := 5) (by decide +kernel)) rfl
theorem kw_6 : Cond.selects "TendonLosses$Tendon" yT_tryAnchor yT_tryAnchor ∈ gt := gt_in (List.mem_of_getElem? (i := 6) (by decide +kernel)) rfl
theorem kw_7 : Cond.selects "TendonLosses$Tendon" yT_shortening yT_shortening ∈ gt := gt_in (List.mem_of_getElem? (i := 7) (by decide +kernel)) rfl
theorem kw_11 : Cond.selects "TendonLosses$Duct" yD_scaledHeight yD_scaledHeight ∈ gt := gt_in (List.mem_of_getElem? (i := 11) (by decide +kernel)) rfl
theorem kw_30 : Cond.initialized "TendonLosses" ∈ gt := gt_in (List.mem_of_getElem? (i := 30) (by decide +kernel)) rfl
theorem kw_31 : Cond.initialized "TendonLosses$Friction" ∈ gt := gt_in (List.mem_of_getElem? (i := 31) (by decide +kernel)) rfl
theorem kw_33 : Cond.initialized "TendonLosses$Tendon" ∈ gt := gt_in (List.mem_of_getElem? (i := 33) (by decide +kernel)) rfl
theorem kw_34 : Cond.initialized "TendonLosses$Duct" ∈ gt := gt_in (List.mem_of_getElem? (i := 34) (by decide +kernel)) rfl
theorem kw_35 : Cond.initialized "java/lang/Math" ∈ gt := gt_in (List.mem_of_getElem? (i := 35) (by decide +kernel)) rfl
theorem kw_52 : Cond.fieldLink "TendonLosses$Friction" 9 "TendonLosses$Friction" "rough" "I" ∈ gt := gt_in (List.mem_of_getElem? (i := 52) (by decide +kernel)) rfl
theorem kw_54 : Cond.fieldLink "TendonLosses$Friction" 15 "TendonLosses$Friction" "mu" "I" ∈ gt := gt_in (List.mem_of_getElem? (i := 54) (by decide +kernel)) rfl
theorem kw_95 : Cond.static yL_isWithin ∈ gt := gt_in (List.mem_of_getElem? (i := 95) (by decide +kernel)) rfl
theorem kw_96 : Cond.code yL_isWithin bL_isWithin 3 (some .boolean) ∈ gt := gt_in (List.mem_of_getElem? (i := 96) (by decide +kernel)) rfl
theorem kw_108 : Cond.fieldLink "TendonLosses$Duct" 9 "TendonLosses$Duct" "xs" "[I" ∈ gt := gt_in (List.mem_of_getElem? (i := 108) (by decide +kernel)) rfl
theorem kw_109 : Cond.fieldLink "TendonLosses$Tendon" 107 "TendonLosses$Duct" "xs" "[I" ∈ gt := gt_in (List.mem_of_getElem? (i := 109) (by decide +kernel)) rfl
theorem kw_110 : Cond.fieldLink "TendonLosses$Duct" 15 "TendonLosses$Duct" "ys" "[I" ∈ gt := gt_in (List.mem_of_getElem? (i := 110) (by decide +kernel)) rfl
theorem kw_111 : Cond.fieldLink "TendonLosses$Duct" 18 "TendonLosses$Duct" "lengths" "[I" ∈ gt := gt_in (List.mem_of_getElem? (i := 111) (by decide +kernel)) rfl
theorem kw_112 : Cond.fieldLink "TendonLosses$Tendon" 92 "TendonLosses$Duct" "lengths" "[I" ∈ gt := gt_in (List.mem_of_getElem? (i := 112) (by decide +kernel)) rfl
theorem kw_114 : Cond.fieldLink "TendonLosses$Duct" 21 "TendonLosses$Duct" "slopes" "[I" ∈ gt := gt_in (List.mem_of_getElem? (i := 114) (by decide +kernel)) rfl
theorem kw_116 : Cond.fieldLink "TendonLosses$Duct" 24 "TendonLosses$Duct" "size" "I" ∈ gt := gt_in (List.mem_of_getElem? (i := 116) (by decide +kernel)) rfl
theorem kw_117 : Cond.fieldLink "TendonLosses$Tendon" 42 "TendonLosses$Duct" "size" "I" ∈ gt := gt_in (List.mem_of_getElem? (i := 117) (by decide +kernel)) rfl
theorem kw_130 : Cond.fieldLink "TendonLosses$Tendon" 18 "TendonLosses$Tendon" "duct" "LTendonLosses$Duct;" ∈ gt := gt_in (List.mem_of_getElem? (i := 130) (by decide +kernel)) rfl
theorem kw_132 : Cond.fieldLink "TendonLosses$Tendon" 9 "TendonLosses$Tendon" "area" "I" ∈ gt := gt_in (List.mem_of_getElem? (i := 132) (by decide +kernel)) rfl
theorem kw_133 : Cond.fieldLink "TendonLosses$Tendon" 22 "TendonLosses$Tendon" "forces" "[J" ∈ gt := gt_in (List.mem_of_getElem? (i := 133) (by decide +kernel)) rfl
theorem kw_135 : Cond.fieldLink "TendonLosses$Tendon" 26 "TendonLosses$Tendon" "tried" "[J" ∈ gt := gt_in (List.mem_of_getElem? (i := 135) (by decide +kernel)) rfl
theorem kw_136 : Cond.fieldLink "TendonLosses$Tendon" 29 "TendonLosses$Tendon" "state" "I" ∈ gt := gt_in (List.mem_of_getElem? (i := 136) (by decide +kernel)) rfl
theorem kw_138 : Cond.fieldLink "TendonLosses$Tendon" 32 "TendonLosses$Tendon" "pulledFrom" "I" ∈ gt := gt_in (List.mem_of_getElem? (i := 138) (by decide +kernel)) rfl
theorem kw_139 : Cond.fieldLink "TendonLosses$Tendon" 35 "TendonLosses$Tendon" "pulledWith" "I" ∈ gt := gt_in (List.mem_of_getElem? (i := 139) (by decide +kernel)) rfl
theorem kw_169 : Cond.constant "TendonLosses$Duct" 32 100000 ∈ gt := gt_in (List.mem_of_getElem? (i := 169) (by decide +kernel)) rfl
theorem kw_174 : Cond.methodLink "TendonLosses$Duct" 33 yD_measurePiece ∈ gt := gt_in (List.mem_of_getElem? (i := 174) (by decide +kernel)) rfl
theorem kw_176 : Cond.instanceMethod yD_measurePiece ∈ gt := gt_in (List.mem_of_getElem? (i := 176) (by decide +kernel)) rfl
theorem kw_177 : Cond.code yD_measurePiece bD_measurePiece 6 none ∈ gt := gt_in (List.mem_of_getElem? (i := 177) (by decide +kernel)) rfl
theorem kw_178 : Cond.methodLink "TendonLosses$Duct" 37 yD_widthOf ∈ gt := gt_in (List.mem_of_getElem? (i := 178) (by decide +kernel)) rfl
theorem kw_179 : Cond.instanceMethod yD_widthOf ∈ gt := gt_in (List.mem_of_getElem? (i := 179) (by decide +kernel)) rfl
theorem kw_180 : Cond.selects "TendonLosses$Duct" yD_widthOf yD_widthOf ∈ gt := gt_in (List.mem_of_getElem? (i := 180) (by decide +kernel)) rfl
theorem kw_181 : Cond.code yD_widthOf bD_widthOf 2 (some .int) ∈ gt := gt_in (List.mem_of_getElem? (i := 181) (by decide +kernel)) rfl
theorem kw_182 : Cond.methodLink "TendonLosses$Duct" 41 yD_rootOf ∈ gt := gt_in (List.mem_of_getElem? (i := 182) (by decide +kernel)) rfl
theorem kw_183 : Cond.static yD_rootOf ∈ gt := gt_in (List.mem_of_getElem? (i := 183) (by decide +kernel)) rfl
theorem kw_184 : Cond.code yD_rootOf bD_rootOf 9 (some .int) ∈ gt := gt_in (List.mem_of_getElem? (i := 184) (by decide +kernel)) rfl
theorem kw_185 : Cond.constantLong "TendonLosses$Duct" 51 200000 ∈ gt := gt_in (List.mem_of_getElem? (i := 185) (by decide +kernel)) rfl
theorem kw_186 : Cond.constantLong "TendonLosses$Duct" 53 2 ∈ gt := gt_in (List.mem_of_getElem? (i := 186) (by decide +kernel)) rfl
theorem kw_187 : Cond.constantLong "TendonLosses$Duct" 45 1000 ∈ gt := gt_in (List.mem_of_getElem? (i := 187) (by decide +kernel)) rfl
theorem kw_189 : Cond.static yL_quotient ∈ gt := gt_in (List.mem_of_getElem? (i := 189) (by decide +kernel)) rfl
theorem kw_190 : Cond.code yL_quotient bL_quotient 4 (some .long) ∈ gt := gt_in (List.mem_of_getElem? (i := 190) (by decide +kernel)) rfl
theorem kw_212 : Cond.methodLink "TendonLosses$Tendon" 38 yT_strain ∈ gt := gt_in (List.mem_of_getElem? (i := 212) (by decide +kernel)) rfl
theorem kw_214 : Cond.instanceMethod yT_strain ∈ gt := gt_in (List.mem_of_getElem? (i := 214) (by decide +kernel)) rfl
theorem kw_215 : Cond.code yT_strain bT_strain 6 none ∈ gt := gt_in (List.mem_of_getElem? (i := 215) (by decide +kernel)) rfl
theorem kw_216 : Cond.methodLink "TendonLosses$Tendon" 51 yT_strainFromEnd ∈ gt := gt_in (List.mem_of_getElem? (i := 216) (by decide +kernel)) rfl
theorem kw_218 : Cond.instanceMethod yT_strainFromEnd ∈ gt := gt_in (List.mem_of_getElem? (i := 218) (by decide +kernel)) rfl
theorem kw_219 : Cond.code yT_strainFromEnd bT_strainFromEnd 9 none ∈ gt := gt_in (List.mem_of_getElem? (i := 219) (by decide +kernel)) rfl
theorem kw_220 : Cond.methodLink "TendonLosses$Tendon" 54 yD_pointOnWay ∈ gt := gt_in (List.mem_of_getElem? (i := 220) (by decide +kernel)) rfl
theorem kw_221 : Cond.instanceMethod yD_pointOnWay ∈ gt := gt_in (List.mem_of_getElem? (i := 221) (by decide +kernel)) rfl
theorem kw_222 : Cond.selects "TendonLosses$Duct" yD_pointOnWay yD_pointOnWay ∈ gt := gt_in (List.mem_of_getElem? (i := 222) (by decide +kernel)) rfl
theorem kw_223 : Cond.code yD_pointOnWay bD_pointOnWay 3 (some .int) ∈ gt := gt_in (List.mem_of_getElem? (i := 223) (by decide +kernel)) rfl
theorem kw_224 : Cond.methodLink "TendonLosses$Tendon" 58 yD_lengthBefore ∈ gt := gt_in (List.mem_of_getElem? (i := 224) (by decide +kernel)) rfl
theorem kw_225 : Cond.instanceMethod yD_lengthBefore ∈ gt := gt_in (List.mem_of_getElem? (i := 225) (by decide +kernel)) rfl
theorem kw_226 : Cond.selects "TendonLosses$Duct" yD_lengthBefore yD_lengthBefore ∈ gt := gt_in (List.mem_of_getElem? (i := 226) (by decide +kernel)) rfl
theorem kw_227 : Cond.code yD_lengthBefore bD_lengthBefore 3 (some .int) ∈ gt := gt_in (List.mem_of_getElem? (i := 227) (by decide +kernel)) rfl
theorem kw_228 : Cond.methodLink "TendonLosses$Tendon" 61 yF_alongPiece ∈ gt := gt_in (List.mem_of_getElem? (i := 228) (by decide +kernel)) rfl
theorem kw_229 : Cond.instanceMethod yF_alongPiece ∈ gt := gt_in (List.mem_of_getElem? (i := 229) (by decide +kernel)) rfl
theorem kw_230 : Cond.selects "TendonLosses$Friction" yF_alongPiece yF_alongPiece ∈ gt := gt_in (List.mem_of_getElem? (i := 230) (by decide +kernel)) rfl
theorem kw_231 : Cond.code yF_alongPiece bF_alongPiece 4 (some .long) ∈ gt := gt_in (List.mem_of_getElem? (i := 231) (by decide +kernel)) rfl
theorem kw_232 : Cond.constantLong "TendonLosses$Friction" 18 1000000000 ∈ gt := gt_in (List.mem_of_getElem? (i := 232) (by decide +kernel)) rfl
theorem kw_233 : Cond.methodLink "TendonLosses$Tendon" 67 yD_turnAt ∈ gt := gt_in (List.mem_of_getElem? (i := 233) (by decide +kernel)) rfl
theorem kw_234 : Cond.instanceMethod yD_turnAt ∈ gt := gt_in (List.mem_of_getElem? (i := 234) (by decide +kernel)) rfl
theorem kw_235 : Cond.selects "TendonLosses$Duct" yD_turnAt yD_turnAt ∈ gt := gt_in (List.mem_of_getElem? (i := 235) (by decide +kernel)) rfl
theorem kw_236 : Cond.code yD_turnAt bD_turnAt 2 (some .int) ∈ gt := gt_in (List.mem_of_getElem? (i := 236) (by decide +kernel)) rfl
theorem kw_237 : Cond.methodLink "TendonLosses$Duct" 59 yD_bendAt ∈ gt := gt_in (List.mem_of_getElem? (i := 237) (by decide +kernel)) rfl
theorem kw_238 : Cond.instanceMethod yD_bendAt ∈ gt := gt_in (List.mem_of_getElem? (i := 238) (by decide +kernel)) rfl
theorem kw_239 : Cond.selects "TendonLosses$Duct" yD_bendAt yD_bendAt ∈ gt := gt_in (List.mem_of_getElem? (i := 239) (by decide +kernel)) rfl
theorem kw_240 : Cond.code yD_bendAt bD_bendAt 2 (some .int) ∈ gt := gt_in (List.mem_of_getElem? (i := 240) (by decide +kernel)) rfl
theorem kw_241 : Cond.methodLink "TendonLosses$Duct" 55 yD_isBetweenPieces ∈ gt := gt_in (List.mem_of_getElem? (i := 241) (by decide +kernel)) rfl
theorem kw_242 : Cond.instanceMethod yD_isBetweenPieces ∈ gt := gt_in (List.mem_of_getElem? (i := 242) (by decide +kernel)) rfl
theorem kw_243 : Cond.selects "TendonLosses$Duct" yD_isBetweenPieces yD_isBetweenPieces ∈ gt := gt_in (List.mem_of_getElem? (i := 243) (by decide +kernel)) rfl
theorem kw_244 : Cond.code yD_isBetweenPieces bD_isBetweenPieces 2 (some .boolean) ∈ gt := gt_in (List.mem_of_getElem? (i := 244) (by decide +kernel)) rfl
theorem kw_245 : Cond.methodLink "TendonLosses$Duct" 62 Lib.Math.abs.name ∈ gt := gt_in (List.mem_of_getElem? (i := 245) (by decide +kernel)) rfl
theorem kw_246 : Cond.static Lib.Math.abs.name ∈ gt := gt_in (List.mem_of_getElem? (i := 246) (by decide +kernel)) rfl
theorem kw_247 : Cond.code Lib.Math.abs.name Lib.Math.abs.code 1 (some .int) ∈ gt := gt_in (List.mem_of_getElem? (i := 247) (by decide +kernel)) rfl
theorem kw_248 : Cond.methodLink "TendonLosses$Tendon" 71 yF_atTurn ∈ gt := gt_in (List.mem_of_getElem? (i := 248) (by decide +kernel)) rfl
theorem kw_249 : Cond.instanceMethod yF_atTurn ∈ gt := gt_in (List.mem_of_getElem? (i := 249) (by decide +kernel)) rfl
theorem kw_250 : Cond.selects "TendonLosses$Friction" yF_atTurn yF_atTurn ∈ gt := gt_in (List.mem_of_getElem? (i := 250) (by decide +kernel)) rfl
theorem kw_251 : Cond.code yF_atTurn bF_atTurn 4 (some .long) ∈ gt := gt_in (List.mem_of_getElem? (i := 251) (by decide +kernel)) rfl
theorem kw_252 : Cond.constantLong "TendonLosses$Friction" 20 1000000 ∈ gt := gt_in (List.mem_of_getElem? (i := 252) (by decide +kernel)) rfl
theorem kw_253 : Cond.methodLink "TendonLosses$Tendon" 74 Lib.MathLoose.max_long.x ∈ gt := gt_in (List.mem_of_getElem? (i := 253) (by decide +kernel)) rfl
theorem kw_254 : Cond.static Lib.MathLoose.max_long.x ∈ gt := gt_in (List.mem_of_getElem? (i := 254) (by decide +kernel)) rfl
theorem kw_255 : Cond.code Lib.MathLoose.max_long.x Lib.MathLoose.max_long.code 4 (some .long) ∈ gt := gt_in (List.mem_of_getElem? (i := 255) (by decide +kernel)) rfl
theorem kw_260 : Cond.methodLink "TendonLosses$Tendon" 88 yT_stretchOf ∈ gt := gt_in (List.mem_of_getElem? (i := 260) (by decide +kernel)) rfl
theorem kw_262 : Cond.instanceMethod yT_stretchOf ∈ gt := gt_in (List.mem_of_getElem? (i := 262) (by decide +kernel)) rfl
theorem kw_263 : Cond.code yT_stretchOf bT_stretchOf 4 (some .long) ∈ gt := gt_in (List.mem_of_getElem? (i := 263) (by decide +kernel)) rfl
theorem kw_264 : Cond.constantLong "TendonLosses$Tendon" 96 1000 ∈ gt := gt_in (List.mem_of_getElem? (i := 264) (by decide +kernel)) rfl
theorem kw_265 : Cond.constantLong "TendonLosses$Tendon" 98 2 ∈ gt := gt_in (List.mem_of_getElem? (i := 265) (by decide +kernel)) rfl
theorem kw_266 : Cond.constantLong "TendonLosses$Tendon" 100 195000 ∈ gt := gt_in (List.mem_of_getElem? (i := 266) (by decide +kernel)) rfl
theorem kw_276 : Cond.methodLink "TendonLosses$Tendon" 77 yT_slipAtEnd ∈ gt := gt_in (List.mem_of_getElem? (i := 276) (by decide +kernel)) rfl
theorem kw_278 : Cond.instanceMethod yT_slipAtEnd ∈ gt := gt_in (List.mem_of_getElem? (i := 278) (by decide +kernel)) rfl
theorem kw_279 : Cond.code yT_slipAtEnd bT_slipAtEnd 8 none ∈ gt := gt_in (List.mem_of_getElem? (i := 279) (by decide +kernel)) rfl
theorem kw_280 : Cond.methodLink "TendonLosses$Tendon" 81 yT_tryAnchor ∈ gt := gt_in (List.mem_of_getElem? (i := 280) (by decide +kernel)) rfl
theorem kw_282 : Cond.instanceMethod yT_tryAnchor ∈ gt := gt_in (List.mem_of_getElem? (i := 282) (by decide +kernel)) rfl
theorem kw_283 : Cond.code yT_tryAnchor bT_tryAnchor 8 none ∈ gt := gt_in (List.mem_of_getElem? (i := 283) (by decide +kernel)) rfl
theorem kw_284 : Cond.methodLink "TendonLosses$Tendon" 84 yT_shortening ∈ gt := gt_in (List.mem_of_getElem? (i := 284) (by decide +kernel)) rfl
theorem kw_286 : Cond.instanceMethod yT_shortening ∈ gt := gt_in (List.mem_of_getElem? (i := 286) (by decide +kernel)) rfl
theorem kw_287 : Cond.code yT_shortening bT_shortening 4 (some .long) ∈ gt := gt_in (List.mem_of_getElem? (i := 287) (by decide +kernel)) rfl
theorem kw_317 : Cond.constantLong "TendonLosses$Tendon" 105 1000000 ∈ gt := gt_in (List.mem_of_getElem? (i := 317) (by decide +kernel)) rfl
theorem kw_342 : Cond.methodLink "TendonLosses$Tendon" 110 yD_widthOf ∈ gt := gt_in (List.mem_of_getElem? (i := 342) (by decide +kernel)) rfl
theorem kw_370 : Cond.methodLink "TendonLosses$Duct" 67 yD_piecesComeNearer ∈ gt := gt_in (List.mem_of_getElem? (i := 370) (by decide +kernel)) rfl
theorem kw_371 : Cond.static yD_piecesComeNearer ∈ gt := gt_in (List.mem_of_getElem? (i := 371) (by decide +kernel)) rfl
theorem kw_372 : Cond.code yD_piecesComeNearer bD_piecesComeNearer 14 (some .boolean) ∈ gt := gt_in (List.mem_of_getElem? (i := 372) (by decide +kernel)) rfl
theorem kw_373 : Cond.methodLink "TendonLosses$Duct" 71 Lib.Math.max.name ∈ gt := gt_in (List.mem_of_getElem? (i := 373) (by decide +kernel)) rfl
theorem kw_374 : Cond.static Lib.Math.max.name ∈ gt := gt_in (List.mem_of_getElem? (i := 374) (by decide +kernel)) rfl
theorem kw_375 : Cond.code Lib.Math.max.name Lib.Math.max.code 2 (some .int) ∈ gt := gt_in (List.mem_of_getElem? (i := 375) (by decide +kernel)) rfl
theorem kw_376 : Cond.methodLink "TendonLosses$Duct" 75 Lib.Math.min.name ∈ gt := gt_in (List.mem_of_getElem? (i := 376) (by decide +kernel)) rfl
theorem kw_377 : Cond.static Lib.Math.min.name ∈ gt := gt_in (List.mem_of_getElem? (i := 377) (by decide +kernel)) rfl
theorem kw_378 : Cond.code Lib.Math.min.name Lib.Math.min.code 2 (some .int) ∈ gt := gt_in (List.mem_of_getElem? (i := 378) (by decide +kernel)) rfl
theorem kw_379 : Cond.methodLink "TendonLosses$Duct" 78 yD_scaledDistance ∈ gt := gt_in (List.mem_of_getElem? (i := 379) (by decide +kernel)) rfl
theorem kw_380 : Cond.static yD_scaledDistance ∈ gt := gt_in (List.mem_of_getElem? (i := 380) (by decide +kernel)) rfl
theorem kw_381 : Cond.code yD_scaledDistance bD_scaledDistance 5 (some .long) ∈ gt := gt_in (List.mem_of_getElem? (i := 381) (by decide +kernel)) rfl
theorem kw_382 : Cond.methodLink "TendonLosses$Duct" 85 yD_scaledHeight ∈ gt := gt_in (List.mem_of_getElem? (i := 382) (by decide +kernel)) rfl
theorem kw_384 : Cond.instanceMethod yD_scaledHeight ∈ gt := gt_in (List.mem_of_getElem? (i := 384) (by decide +kernel)) rfl
theorem kw_385 : Cond.code yD_scaledHeight bD_scaledHeight 5 (some .long) ∈ gt := gt_in (List.mem_of_getElem? (i := 385) (by decide +kernel)) rfl
theorem kw_386 : Cond.methodLink "TendonLosses$Duct" 82 Lib.MathLoose.abs_long.x ∈ gt := gt_in (List.mem_of_getElem? (i := 386) (by decide +kernel)) rfl
theorem kw_387 : Cond.static Lib.MathLoose.abs_long.x ∈ gt := gt_in (List.mem_of_getElem? (i := 387) (by decide +kernel)) rfl
theorem kw_388 : Cond.code Lib.MathLoose.abs_long.x Lib.MathLoose.abs_long.code 2 (some .long) ∈ gt := gt_in (List.mem_of_getElem? (i := 388) (by decide +kernel)) rfl
theorem kw_402 : Cond.methodLink "TendonLosses$Tendon" 45 Lib.MathLoose.min_long.x ∈ gt := gt_in (List.mem_of_getElem? (i := 402) (by decide +kernel)) rfl
theorem kw_403 : Cond.static Lib.MathLoose.min_long.x ∈ gt := gt_in (List.mem_of_getElem? (i := 403) (by decide +kernel)) rfl
theorem kw_404 : Cond.code Lib.MathLoose.min_long.x Lib.MathLoose.min_long.code 4 (some .long) ∈ gt := gt_in (List.mem_of_getElem? (i := 404) (by decide +kernel)) rfl
