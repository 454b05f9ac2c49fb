theorem kw_1 : Cond.selects "TendonLosses$Duct" yD_measurePiece yD_measurePiece ∈ gt := gt_in (List.mem_of_getElem? (i := 1) (by decide +kernel)) rfl
theorem kw_2 : Cond.selects "TendonLosses$Tendon" yT_strain yT_strain ∈ gt := gt_in (List.mem_of_getElem? (i := 2) (by decide +kernel)) rfl
theorem kw_3 : Cond.selects "TendonLosses$Tendon" yT_strainFromEnd yT_strainFromEnd ∈ gt := gt_in (List.mem_of_getElem? (i := 3) (by decide +kernel)) rfl
theorem kw_4 : Cond.selects "TendonLosses$Tendon" yT_stretchOf yT_stretchOf ∈ gt := gt_in (List.mem_of_getElem? (i := 4) (by decide +kernel)) rfl
theorem kw_5 : Cond.selects "TendonLosses$Tendon" yT_slipAtEnd yT_slipAtEnd ∈ gt := gt_in (List.mem_of_getElem? (i := 5) (by decide +kernel)) rfl
theorem kw_6 : Cond.selects "TendonLosses$Tendon" yT_tryAnchor yT_tryAnchor ∈ gt := gt_in (List.mem_of_getElem? (i := 6) (by decide +kernel)) rfl
theorem kw_7 : Cond.selects "TendonLosses$Tendon" yT_shortening yT_shortening ∈ gt := gt_in (List.mem_of_getElem? (i := 7) (by decide +kernel)) rfl
theorem kw_11 : Cond.selects "TendonLosses$Duct" yD_scaledHeight yD_scaledHeight ∈ gt := gt_in (List.mem_of_getElem? (i := 11) (by decide +kernel)) rfl
theorem kw_14 : Cond.selects "TendonLossesModel" yM_isTendon yM_isTendon ∈ gt := gt_in (List.mem_of_getElem? (i := 14) (by decide +kernel)) rfl
theorem kw_15 : Cond.selects "TendonLossesModel" yM_drawAll yM_drawAll ∈ gt := gt_in (List.mem_of_getElem? (i := 15) (by decide +kernel)) rfl
theorem kw_16 : Cond.selects "TendonLossesModel" yM_draw yM_draw ∈ gt := gt_in (List.mem_of_getElem? (i := 16) (by decide +kernel)) rfl
theorem kw_17 : Cond.selects "TendonLossesModel" yM_lengthOf yM_lengthOf ∈ gt := gt_in (List.mem_of_getElem? (i := 17) (by decide +kernel)) rfl
theorem kw_18 : Cond.selects "TendonLossesModel" yM_byRough yM_byRough ∈ gt := gt_in (List.mem_of_getElem? (i := 18) (by decide +kernel)) rfl
theorem kw_19 : Cond.selects "TendonLossesModel" yM_turnOf yM_turnOf ∈ gt := gt_in (List.mem_of_getElem? (i := 19) (by decide +kernel)) rfl
theorem kw_20 : Cond.selects "TendonLossesModel" yM_slopeOf yM_slopeOf ∈ gt := gt_in (List.mem_of_getElem? (i := 20) (by decide +kernel)) rfl
theorem kw_21 : Cond.selects "TendonLossesModel" yM_byTurn yM_byTurn ∈ gt := gt_in (List.mem_of_getElem? (i := 21) (by decide +kernel)) rfl
theorem kw_22 : Cond.selects "TendonLossesModel" yM_longerOf yM_longerOf ∈ gt := gt_in (List.mem_of_getElem? (i := 22) (by decide +kernel)) rfl
theorem kw_23 : Cond.selects "TendonLossesModel" yM_letSlip yM_letSlip ∈ gt := gt_in (List.mem_of_getElem? (i := 23) (by decide +kernel)) rfl
theorem kw_24 : Cond.selects "TendonLossesModel" yM_tryOut yM_tryOut ∈ gt := gt_in (List.mem_of_getElem? (i := 24) (by decide +kernel)) rfl
theorem kw_25 : Cond.selects "TendonLossesModel" yM_hasForces yM_hasForces ∈ gt := gt_in (List.mem_of_getElem? (i := 25) (by decide +kernel)) rfl
theorem kw_26 : Cond.selects "TendonLossesModel" yM_apart yM_apart ∈ gt := gt_in (List.mem_of_getElem? (i := 26) (by decide +kernel)) rfl
theorem kw_27 : Cond.selects "TendonLossesModel" yM_pieceAt yM_pieceAt ∈ gt := gt_in (List.mem_of_getElem? (i := 27) (by decide +kernel)) rfl
theorem kw_28 : Cond.selects "TendonLossesModel" yM_unit yM_unit ∈ gt := gt_in (List.mem_of_getElem? (i := 28) (by decide +kernel)) rfl
theorem kw_30 : Cond.initialized "TendonLosses" ∈ gt := gt_in (List.mem_of_getElem? (i := 30) (by decide +kernel)) rfl
theorem kw_31 : Cond.initialized "TendonLosses$Friction" ∈ gt := gt_in (List.mem_of_getElem? (i := 31) (by decide +kernel)) rfl
theorem kw_32 : Cond.initialized "TendonLossesModel" ∈ gt := gt_in (List.mem_of_getElem? (i := 32) (by decide +kernel)) rfl
theorem kw_33 : Cond.initialized "TendonLosses$Tendon" ∈ gt := gt_in (List.mem_of_getElem? (i := 33) (by decide +kernel)) rfl
theorem kw_34 : Cond.initialized "TendonLosses$Duct" ∈ gt := gt_in (List.mem_of_getElem? (i := 34) (by decide +kernel)) rfl
theorem kw_35 : Cond.initialized "java/lang/Math" ∈ gt := gt_in (List.mem_of_getElem? (i := 35) (by decide +kernel)) rfl
theorem kw_52 : Cond.fieldLink "TendonLosses$Friction" 9 "TendonLosses$Friction" "rough" "I" ∈ gt := gt_in (List.mem_of_getElem? (i := 52) (by decide +kernel)) rfl
theorem kw_54 : Cond.fieldLink "TendonLosses$Friction" 15 "TendonLosses$Friction" "mu" "I" ∈ gt := gt_in (List.mem_of_getElem? (i := 54) (by decide +kernel)) rfl
theorem kw_95 : Cond.static yL_isWithin ∈ gt := gt_in (List.mem_of_getElem? (i := 95) (by decide +kernel)) rfl
theorem kw_96 : Cond.code yL_isWithin bL_isWithin 3 (some .boolean) ∈ gt := gt_in (List.mem_of_getElem? (i := 96) (by decide +kernel)) rfl
theorem kw_108 : Cond.fieldLink "TendonLosses$Duct" 9 "TendonLosses$Duct" "xs" "[I" ∈ gt := gt_in (List.mem_of_getElem? (i := 108) (by decide +kernel)) rfl
theorem kw_109 : Cond.fieldLink "TendonLosses$Tendon" 107 "TendonLosses$Duct" "xs" "[I" ∈ gt := gt_in (List.mem_of_getElem? (i := 109) (by decide +kernel)) rfl
theorem kw_110 : Cond.fieldLink "TendonLosses$Duct" 15 "TendonLosses$Duct" "ys" "[I" ∈ gt := gt_in (List.mem_of_getElem? (i := 110) (by decide +kernel)) rfl
theorem kw_111 : Cond.fieldLink "TendonLosses$Duct" 18 "TendonLosses$Duct" "lengths" "[I" ∈ gt := gt_in (List.mem_of_getElem? (i := 111) (by decide +kernel)) rfl
theorem kw_112 : Cond.fieldLink "TendonLosses$Tendon" 92 "TendonLosses$Duct" "lengths" "[I" ∈ gt := gt_in (List.mem_of_getElem? (i := 112) (by decide +kernel)) rfl
theorem kw_114 : Cond.fieldLink "TendonLosses$Duct" 21 "TendonLosses$Duct" "slopes" "[I" ∈ gt := gt_in (List.mem_of_getElem? (i := 114) (by decide +kernel)) rfl
theorem kw_116 : Cond.fieldLink "TendonLosses$Duct" 24 "TendonLosses$Duct" "size" "I" ∈ gt := gt_in (List.mem_of_getElem? (i := 116) (by decide +kernel)) rfl
theorem kw_117 : Cond.fieldLink "TendonLosses$Tendon" 42 "TendonLosses$Duct" "size" "I" ∈ gt := gt_in (List.mem_of_getElem? (i := 117) (by decide +kernel)) rfl
theorem kw_130 : Cond.fieldLink "TendonLosses$Tendon" 18 "TendonLosses$Tendon" "duct" "LTendonLosses$Duct;" ∈ gt := gt_in (List.mem_of_getElem? (i := 130) (by decide +kernel)) rfl
theorem kw_132 : Cond.fieldLink "TendonLosses$Tendon" 9 "TendonLosses$Tendon" "area" "I" ∈ gt := gt_in (List.mem_of_getElem? (i := 132) (by decide +kernel)) rfl
theorem kw_133 : Cond.fieldLink "TendonLosses$Tendon" 22 "TendonLosses$Tendon" "forces" "[J" ∈ gt := gt_in (List.mem_of_getElem? (i := 133) (by decide +kernel)) rfl
theorem kw_135 : Cond.fieldLink "TendonLosses$Tendon" 26 "TendonLosses$Tendon" "tried" "[J" ∈ gt := gt_in (List.mem_of_getElem? (i := 135) (by decide +kernel)) rfl
theorem kw_136 : Cond.fieldLink "TendonLosses$Tendon" 29 "TendonLosses$Tendon" "state" "I" ∈ gt := gt_in (List.mem_of_getElem? (i := 136) (by decide +kernel)) rfl
theorem kw_138 : Cond.fieldLink "TendonLosses$Tendon" 32 "TendonLosses$Tendon" "pulledFrom" "I" ∈ gt := gt_in (List.mem_of_getElem? (i := 138) (by decide +kernel)) rfl
theorem kw_139 : Cond.fieldLink "TendonLosses$Tendon" 35 "TendonLosses$Tendon" "pulledWith" "I" ∈ gt := gt_in (List.mem_of_getElem? (i := 139) (by decide +kernel)) rfl
theorem kw_169 : Cond.constant "TendonLosses$Duct" 32 100000 ∈ gt := gt_in (List.mem_of_getElem? (i := 169) (by decide +kernel)) rfl
theorem kw_174 : Cond.methodLink "TendonLosses$Duct" 33 yD_measurePiece ∈ gt := gt_in (List.mem_of_getElem? (i := 174) (by decide +kernel)) rfl
theorem kw_176 : Cond.instanceMethod yD_measurePiece ∈ gt := gt_in (List.mem_of_getElem? (i := 176) (by decide +kernel)) rfl
theorem kw_177 : Cond.code yD_measurePiece bD_measurePiece 6 none ∈ gt := gt_in (List.mem_of_getElem? (i := 177) (by decide +kernel)) rfl
theorem kw_178 : Cond.methodLink "TendonLosses$Duct" 37 yD_widthOf ∈ gt := gt_in (List.mem_of_getElem? (i := 178) (by decide +kernel)) rfl
theorem kw_179 : Cond.instanceMethod yD_widthOf ∈ gt := gt_in (List.mem_of_getElem? (i := 179) (by decide +kernel)) rfl
theorem kw_180 : Cond.selects "TendonLosses$Duct" yD_widthOf yD_widthOf ∈ gt := gt_in (List.mem_of_getElem? (i := 180) (by decide +kernel)) rfl
theorem kw_181 : Cond.code yD_widthOf bD_widthOf 2 (some .int) ∈ gt := gt_in (List.mem_of_getElem? (i := 181) (by decide +kernel)) rfl
theorem kw_182 : Cond.methodLink "TendonLosses$Duct" 41 yD_rootOf ∈ gt := gt_in (List.mem_of_getElem? (i := 182) (by decide +kernel)) rfl
theorem kw_183 : Cond.static yD_rootOf ∈ gt := gt_in (List.mem_of_getElem? (i := 183) (by decide +kernel)) rfl
theorem kw_184 : Cond.code yD_rootOf bD_rootOf 9 (some .int) ∈ gt := gt_in (List.mem_of_getElem? (i := 184) (by decide +kernel)) rfl
theorem kw_185 : Cond.constantLong "TendonLosses$Duct" 51 200000 ∈ gt := gt_in (List.mem_of_getElem? (i := 185) (by decide +kernel)) rfl
theorem kw_186 : Cond.constantLong "TendonLosses$Duct" 53 2 ∈ gt := gt_in (List.mem_of_getElem? (i := 186) (by decide +kernel)) rfl
theorem kw_187 : Cond.constantLong "TendonLosses$Duct" 45 1000 ∈ gt := gt_in (List.mem_of_getElem? (i := 187) (by decide +kernel)) rfl
theorem kw_189 : Cond.static yL_quotient ∈ gt := gt_in (List.mem_of_getElem? (i := 189) (by decide +kernel)) rfl
theorem kw_190 : Cond.code yL_quotient bL_quotient 4 (some .long) ∈ gt := gt_in (List.mem_of_getElem? (i := 190) (by decide +kernel)) rfl
theorem kw_212 : Cond.methodLink "TendonLosses$Tendon" 38 yT_strain ∈ gt := gt_in (List.mem_of_getElem? (i := 212) (by decide +kernel)) rfl
theorem kw_214 : Cond.instanceMethod yT_strain ∈ gt := gt_in (List.mem_of_getElem? (i := 214) (by decide +kernel)) rfl
theorem kw_215 : Cond.code yT_strain bT_strain 6 none ∈ gt := gt_in (List.mem_of_getElem? (i := 215) (by decide +kernel)) rfl
theorem kw_216 : Cond.methodLink "TendonLosses$Tendon" 51 yT_strainFromEnd ∈ gt := gt_in (List.mem_of_getElem? (i := 216) (by decide +kernel)) rfl
theorem kw_218 : Cond.instanceMethod yT_strainFromEnd ∈ gt := gt_in (List.mem_of_getElem? (i := 218) (by decide +kernel)) rfl
theorem kw_219 : Cond.code yT_strainFromEnd bT_strainFromEnd 9 none ∈ gt := gt_in (List.mem_of_getElem? (i := 219) (by decide +kernel)) rfl
theorem kw_220 : Cond.methodLink "TendonLosses$Tendon" 54 yD_pointOnWay ∈ gt := gt_in (List.mem_of_getElem? (i := 220) (by decide +kernel)) rfl
theorem kw_221 : Cond.instanceMethod yD_pointOnWay ∈ gt := gt_in (List.mem_of_getElem? (i := 221) (by decide +kernel)) rfl
theorem kw_222 : Cond.selects "TendonLosses$Duct" yD_pointOnWay yD_pointOnWay ∈ gt := gt_in (List.mem_of_getElem? (i := 222) (by decide +kernel)) rfl
theorem kw_223 : Cond.code yD_pointOnWay bD_pointOnWay 3 (some .int) ∈ gt := gt_in (List.mem_of_getElem? (i := 223) (by decide +kernel)) rfl
theorem kw_224 : Cond.methodLink "TendonLosses$Tendon" 58 yD_lengthBefore ∈ gt := gt_in (List.mem_of_getElem? (i := 224) (by decide +kernel)) rfl
theorem kw_225 : Cond.instanceMethod yD_lengthBefore ∈ gt := gt_in (List.mem_of_getElem? (i := 225) (by decide +kernel)) rfl
theorem kw_226 : Cond.selects "TendonLosses$Duct" yD_lengthBefore yD_lengthBefore ∈ gt := gt_in (List.mem_of_getElem? (i := 226) (by decide +kernel)) rfl
theorem kw_227 : Cond.code yD_lengthBefore bD_lengthBefore 3 (some .int) ∈ gt := gt_in (List.mem_of_getElem? (i := 227) (by decide +kernel)) rfl
theorem kw_228 : Cond.methodLink "TendonLosses$Tendon" 61 yF_alongPiece ∈ gt := gt_in (List.mem_of_getElem? (i := 228) (by decide +kernel)) rfl
theorem kw_229 : Cond.instanceMethod yF_alongPiece ∈ gt := gt_in (List.mem_of_getElem? (i := 229) (by decide +kernel)) rfl
theorem kw_230 : Cond.selects "TendonLosses$Friction" yF_alongPiece yF_alongPiece ∈ gt := gt_in (List.mem_of_getElem? (i := 230) (by decide +kernel)) rfl
theorem kw_231 : Cond.code yF_alongPiece bF_alongPiece 4 (some .long) ∈ gt := gt_in (List.mem_of_getElem? (i := 231) (by decide +kernel)) rfl
theorem kw_232 : Cond.constantLong "TendonLosses$Friction" 18 1000000000 ∈ gt := gt_in (List.mem_of_getElem? (i := 232) (by decide +kernel)) rfl
theorem kw_233 : Cond.methodLink "TendonLosses$Tendon" 67 yD_turnAt ∈ gt := gt_in (List.mem_of_getElem? (i := 233) (by decide +kernel)) rfl
theorem kw_234 : Cond.instanceMethod yD_turnAt ∈ gt := gt_in (List.mem_of_getElem? (i := 234) (by decide +kernel)) rfl
theorem kw_235 : Cond.selects "TendonLosses$Duct" yD_turnAt yD_turnAt ∈ gt := gt_in (List.mem_of_getElem? (i := 235) (by decide +kernel)) rfl
theorem kw_236 : Cond.code yD_turnAt bD_turnAt 2 (some .int) ∈ gt := gt_in (List.mem_of_getElem? (i := 236) (by decide +kernel)) rfl
theorem kw_237 : Cond.methodLink "TendonLosses$Duct" 59 yD_bendAt ∈ gt := gt_in (List.mem_of_getElem? (i := 237) (by decide +kernel)) rfl
theorem kw_238 : Cond.instanceMethod yD_bendAt ∈ gt := gt_in (List.mem_of_getElem? (i := 238) (by decide +kernel)) rfl
theorem kw_239 : Cond.selects "TendonLosses$Duct" yD_bendAt yD_bendAt ∈ gt := gt_in (List.mem_of_getElem? (i := 239) (by decide +kernel)) rfl
theorem kw_240 : Cond.code yD_bendAt bD_bendAt 2 (some .int) ∈ gt := gt_in (List.mem_of_getElem? (i := 240) (by decide +kernel)) rfl
theorem kw_241 : Cond.methodLink "TendonLosses$Duct" 55 yD_isBetweenPieces ∈ gt := gt_in (List.mem_of_getElem? (i := 241) (by decide +kernel)) rfl
theorem kw_242 : Cond.instanceMethod yD_isBetweenPieces ∈ gt := gt_in (List.mem_of_getElem? (i := 242) (by decide +kernel)) rfl
theorem kw_243 : Cond.selects "TendonLosses$Duct" yD_isBetweenPieces yD_isBetweenPieces ∈ gt := gt_in (List.mem_of_getElem? (i := 243) (by decide +kernel)) rfl
theorem kw_244 : Cond.code yD_isBetweenPieces bD_isBetweenPieces 2 (some .boolean) ∈ gt := gt_in (List.mem_of_getElem? (i := 244) (by decide +kernel)) rfl
theorem kw_245 : Cond.methodLink "TendonLosses$Duct" 62 Lib.Math.abs.name ∈ gt := gt_in (List.mem_of_getElem? (i := 245) (by decide +kernel)) rfl
theorem kw_246 : Cond.static Lib.Math.abs.name ∈ gt := gt_in (List.mem_of_getElem? (i := 246) (by decide +kernel)) rfl
theorem kw_247 : Cond.code Lib.Math.abs.name Lib.Math.abs.code 1 (some .int) ∈ gt := gt_in (List.mem_of_getElem? (i := 247) (by decide +kernel)) rfl
theorem kw_248 : Cond.methodLink "TendonLosses$Tendon" 71 yF_atTurn ∈ gt := gt_in (List.mem_of_getElem? (i := 248) (by decide +kernel)) rfl
theorem kw_249 : Cond.instanceMethod yF_atTurn ∈ gt := gt_in (List.mem_of_getElem? (i := 249) (by decide +kernel)) rfl
theorem kw_250 : Cond.selects "TendonLosses$Friction" yF_atTurn yF_atTurn ∈ gt := gt_in (List.mem_of_getElem? (i := 250) (by decide +kernel)) rfl
theorem kw_251 : Cond.code yF_atTurn bF_atTurn 4 (some .long) ∈ gt := gt_in (List.mem_of_getElem? (i := 251) (by decide +kernel)) rfl
theorem kw_252 : Cond.constantLong "TendonLosses$Friction" 20 1000000 ∈ gt := gt_in (List.mem_of_getElem? (i := 252) (by decide +kernel)) rfl
theorem kw_253 : Cond.methodLink "TendonLosses$Tendon" 74 Lib.MathLoose.max_long.x ∈ gt := gt_in (List.mem_of_getElem? (i := 253) (by decide +kernel)) rfl
theorem kw_254 : Cond.static Lib.MathLoose.max_long.x ∈ gt := gt_in (List.mem_of_getElem? (i := 254) (by decide +kernel)) rfl
theorem kw_255 : Cond.code Lib.MathLoose.max_long.x Lib.MathLoose.max_long.code 4 (some .long) ∈ gt := gt_in (List.mem_of_getElem? (i := 255) (by decide +kernel)) rfl
theorem kw_260 : Cond.methodLink "TendonLosses$Tendon" 88 yT_stretchOf ∈ gt := gt_in (List.mem_of_getElem? (i := 260) (by decide +kernel)) rfl
theorem kw_262 : Cond.instanceMethod yT_stretchOf ∈ gt := gt_in (List.mem_of_getElem? (i := 262) (by decide +kernel)) rfl
theorem kw_263 : Cond.code yT_stretchOf bT_stretchOf 4 (some .long) ∈ gt := gt_in (List.mem_of_getElem? (i := 263) (by decide +kernel)) rfl
theorem kw_264 : Cond.constantLong "TendonLosses$Tendon" 96 1000 ∈ gt := gt_in (List.mem_of_getElem? (i := 264) (by decide +kernel)) rfl
theorem kw_265 : Cond.constantLong "TendonLosses$Tendon" 98 2 ∈ gt := gt_in (List.mem_of_getElem? (i := 265) (by decide +kernel)) rfl
theorem kw_266 : Cond.constantLong "TendonLosses$Tendon" 100 195000 ∈ gt := gt_in (List.mem_of_getElem? (i := 266) (by decide +kernel)) rfl
theorem kw_276 : Cond.methodLink "TendonLosses$Tendon" 77 yT_slipAtEnd ∈ gt := gt_in (List.mem_of_getElem? (i := 276) (by decide +kernel)) rfl
theorem kw_278 : Cond.instanceMethod yT_slipAtEnd ∈ gt := gt_in (List.mem_of_getElem? (i := 278) (by decide +kernel)) rfl
theorem kw_279 : Cond.code yT_slipAtEnd bT_slipAtEnd 8 none ∈ gt := gt_in (List.mem_of_getElem? (i := 279) (by decide +kernel)) rfl
theorem kw_280 : Cond.methodLink "TendonLosses$Tendon" 81 yT_tryAnchor ∈ gt := gt_in (List.mem_of_getElem? (i := 280) (by decide +kernel)) rfl
theorem kw_282 : Cond.instanceMethod yT_tryAnchor ∈ gt := gt_in (List.mem_of_getElem? (i := 282) (by decide +kernel)) rfl
theorem kw_283 : Cond.code yT_tryAnchor bT_tryAnchor 8 none ∈ gt := gt_in (List.mem_of_getElem? (i := 283) (by decide +kernel)) rfl
theorem kw_284 : Cond.methodLink "TendonLosses$Tendon" 84 yT_shortening ∈ gt := gt_in (List.mem_of_getElem? (i := 284) (by decide +kernel)) rfl
theorem kw_286 : Cond.instanceMethod yT_shortening ∈ gt := gt_in (List.mem_of_getElem? (i := 286) (by decide +kernel)) rfl
theorem kw_287 : Cond.code yT_shortening bT_shortening 4 (some .long) ∈ gt := gt_in (List.mem_of_getElem? (i := 287) (by decide +kernel)) rfl
theorem kw_317 : Cond.constantLong "TendonLosses$Tendon" 105 1000000 ∈ gt := gt_in (List.mem_of_getElem? (i := 317) (by decide +kernel)) rfl
theorem kw_342 : Cond.methodLink "TendonLosses$Tendon" 110 yD_widthOf ∈ gt := gt_in (List.mem_of_getElem? (i := 342) (by decide +kernel)) rfl
theorem kw_370 : Cond.methodLink "TendonLosses$Duct" 67 yD_piecesComeNearer ∈ gt := gt_in (List.mem_of_getElem? (i := 370) (by decide +kernel)) rfl
theorem kw_371 : Cond.static yD_piecesComeNearer ∈ gt := gt_in (List.mem_of_getElem? (i := 371) (by decide +kernel)) rfl
theorem kw_372 : Cond.code yD_piecesComeNearer bD_piecesComeNearer 14 (some .boolean) ∈ gt := gt_in (List.mem_of_getElem? (i := 372) (by decide +kernel)) rfl
theorem kw_373 : Cond.methodLink "TendonLosses$Duct" 71 Lib.Math.max.name ∈ gt := gt_in (List.mem_of_getElem? (i := 373) (by decide +kernel)) rfl
theorem kw_374 : Cond.static Lib.Math.max.name ∈ gt := gt_in (List.mem_of_getElem? (i := 374) (by decide +kernel)) rfl
theorem kw_375 : Cond.code Lib.Math.max.name Lib.Math.max.code 2 (some .int) ∈ gt := gt_in (List.mem_of_getElem? (i := 375) (by decide +kernel)) rfl
theorem kw_376 : Cond.methodLink "TendonLosses$Duct" 75 Lib.Math.min.name ∈ gt := gt_in (List.mem_of_getElem? (i := 376) (by decide +kernel)) rfl
theorem kw_377 : Cond.static Lib.Math.min.name ∈ gt := gt_in (List.mem_of_getElem? (i := 377) (by decide +kernel)) rfl
theorem kw_378 : Cond.code Lib.Math.min.name Lib.Math.min.code 2 (some .int) ∈ gt := gt_in (List.mem_of_getElem? (i := 378) (by decide +kernel)) rfl
theorem kw_379 : Cond.methodLink "TendonLosses$Duct" 78 yD_scaledDistance ∈ gt := gt_in (List.mem_of_getElem? (i := 379) (by decide +kernel)) rfl
theorem kw_380 : Cond.static yD_scaledDistance ∈ gt := gt_in (List.mem_of_getElem? (i := 380) (by decide +kernel)) rfl
theorem kw_381 : Cond.code yD_scaledDistance bD_scaledDistance 5 (some .long) ∈ gt := gt_in (List.mem_of_getElem? (i := 381) (by decide +kernel)) rfl
theorem kw_382 : Cond.methodLink "TendonLosses$Duct" 85 yD_scaledHeight ∈ gt := gt_in (List.mem_of_getElem? (i := 382) (by decide +kernel)) rfl
theorem kw_384 : Cond.instanceMethod yD_scaledHeight ∈ gt := gt_in (List.mem_of_getElem? (i := 384) (by decide +kernel)) rfl
theorem kw_385 : Cond.code yD_scaledHeight bD_scaledHeight 5 (some .long) ∈ gt := gt_in (List.mem_of_getElem? (i := 385) (by decide +kernel)) rfl
theorem kw_386 : Cond.methodLink "TendonLosses$Duct" 82 Lib.MathLoose.abs_long.x ∈ gt := gt_in (List.mem_of_getElem? (i := 386) (by decide +kernel)) rfl
theorem kw_387 : Cond.static Lib.MathLoose.abs_long.x ∈ gt := gt_in (List.mem_of_getElem? (i := 387) (by decide +kernel)) rfl
theorem kw_388 : Cond.code Lib.MathLoose.abs_long.x Lib.MathLoose.abs_long.code 2 (some .long) ∈ gt := gt_in (List.mem_of_getElem? (i := 388) (by decide +kernel)) rfl
theorem kw_402 : Cond.methodLink "TendonLosses$Tendon" 45 Lib.MathLoose.min_long.x ∈ gt := gt_in (List.mem_of_getElem? (i := 402) (by decide +kernel)) rfl
theorem kw_403 : Cond.static Lib.MathLoose.min_long.x ∈ gt := gt_in (List.mem_of_getElem? (i := 403) (by decide +kernel)) rfl
theorem kw_404 : Cond.code Lib.MathLoose.min_long.x Lib.MathLoose.min_long.code 4 (some .long) ∈ gt := gt_in (List.mem_of_getElem? (i := 404) (by decide +kernel)) rfl
theorem kw_423 : Cond.fieldLink "TendonLossesModel" 57 "TendonLossesModel" "tendons" "I" ∈ gt := gt_in (List.mem_of_getElem? (i := 423) (by decide +kernel)) rfl
theorem kw_424 : Cond.fieldLink "TendonLossesModel" 7 "TendonLossesModel" "areas" "[I" ∈ gt := gt_in (List.mem_of_getElem? (i := 424) (by decide +kernel)) rfl
theorem kw_425 : Cond.fieldLink "TendonLossesModel" 13 "TendonLossesModel" "sizes" "[I" ∈ gt := gt_in (List.mem_of_getElem? (i := 425) (by decide +kernel)) rfl
theorem kw_426 : Cond.fieldLink "TendonLossesModel" 16 "TendonLossesModel" "states" "[I" ∈ gt := gt_in (List.mem_of_getElem? (i := 426) (by decide +kernel)) rfl
theorem kw_427 : Cond.fieldLink "TendonLossesModel" 19 "TendonLossesModel" "ends" "[I" ∈ gt := gt_in (List.mem_of_getElem? (i := 427) (by decide +kernel)) rfl
theorem kw_428 : Cond.fieldLink "TendonLossesModel" 22 "TendonLossesModel" "pulls" "[I" ∈ gt := gt_in (List.mem_of_getElem? (i := 428) (by decide +kernel)) rfl
theorem kw_429 : Cond.fieldLink "TendonLossesModel" 25 "TendonLossesModel" "xs" "[I" ∈ gt := gt_in (List.mem_of_getElem? (i := 429) (by decide +kernel)) rfl
theorem kw_430 : Cond.fieldLink "TendonLossesModel" 28 "TendonLossesModel" "ys" "[I" ∈ gt := gt_in (List.mem_of_getElem? (i := 430) (by decide +kernel)) rfl
theorem kw_431 : Cond.fieldLink "TendonLossesModel" 31 "TendonLossesModel" "forces" "[J" ∈ gt := gt_in (List.mem_of_getElem? (i := 431) (by decide +kernel)) rfl
theorem kw_432 : Cond.fieldLink "TendonLossesModel" 35 "TendonLossesModel" "order" "[I" ∈ gt := gt_in (List.mem_of_getElem? (i := 432) (by decide +kernel)) rfl
theorem kw_433 : Cond.fieldLink "TendonLossesModel" 131 "TendonLossesModel" "lockedOnes" "I" ∈ gt := gt_in (List.mem_of_getElem? (i := 433) (by decide +kernel)) rfl
theorem kw_434 : Cond.fieldLink "TendonLossesModel" 38 "TendonLossesModel" "rough" "I" ∈ gt := gt_in (List.mem_of_getElem? (i := 434) (by decide +kernel)) rfl
theorem kw_435 : Cond.fieldLink "TendonLossesModel" 42 "TendonLossesModel" "mu" "I" ∈ gt := gt_in (List.mem_of_getElem? (i := 435) (by decide +kernel)) rfl
theorem kw_436 : Cond.fieldLink "TendonLossesModel" 72 "TendonLossesModel" "slip" "I" ∈ gt := gt_in (List.mem_of_getElem? (i := 436) (by decide +kernel)) rfl
theorem kw_437 : Cond.fieldLink "TendonLossesModel" 45 "TendonLossesModel" "share" "I" ∈ gt := gt_in (List.mem_of_getElem? (i := 437) (by decide +kernel)) rfl
theorem kw_438 : Cond.fieldLink "TendonLossesModel" 48 "TendonLossesModel" "fade" "I" ∈ gt := gt_in (List.mem_of_getElem? (i := 438) (by decide +kernel)) rfl
theorem kw_439 : Cond.fieldLink "TendonLossesModel" 137 "TendonLossesModel" "days" "I" ∈ gt := gt_in (List.mem_of_getElem? (i := 439) (by decide +kernel)) rfl
theorem kw_440 : Cond.fieldLink "TendonLossesModel" 51 "TendonLossesModel" "one" "[J" ∈ gt := gt_in (List.mem_of_getElem? (i := 440) (by decide +kernel)) rfl
theorem kw_441 : Cond.fieldLink "TendonLossesModel" 54 "TendonLossesModel" "two" "[J" ∈ gt := gt_in (List.mem_of_getElem? (i := 441) (by decide +kernel)) rfl
theorem kw_487 : Cond.methodLink "TendonLossesModel" 63 yM_in ∈ gt := gt_in (List.mem_of_getElem? (i := 487) (by decide +kernel)) rfl
theorem kw_488 : Cond.static yM_in ∈ gt := gt_in (List.mem_of_getElem? (i := 488) (by decide +kernel)) rfl
theorem kw_489 : Cond.code yM_in bM_in 3 (some .boolean) ∈ gt := gt_in (List.mem_of_getElem? (i := 489) (by decide +kernel)) rfl
theorem kw_494 : Cond.methodLink "TendonLossesModel" 67 yM_isTendon ∈ gt := gt_in (List.mem_of_getElem? (i := 494) (by decide +kernel)) rfl
theorem kw_496 : Cond.instanceMethod yM_isTendon ∈ gt := gt_in (List.mem_of_getElem? (i := 496) (by decide +kernel)) rfl
theorem kw_497 : Cond.code yM_isTendon bM_isTendon 2 (some .boolean) ∈ gt := gt_in (List.mem_of_getElem? (i := 497) (by decide +kernel)) rfl
theorem kw_498 : Cond.constant "TendonLossesModel" 71 100000 ∈ gt := gt_in (List.mem_of_getElem? (i := 498) (by decide +kernel)) rfl
theorem kw_511 : Cond.constant "TendonLossesModel" 114 10000000 ∈ gt := gt_in (List.mem_of_getElem? (i := 511) (by decide +kernel)) rfl
theorem kw_512 : Cond.methodLink "TendonLossesModel" 115 yM_drawAll ∈ gt := gt_in (List.mem_of_getElem? (i := 512) (by decide +kernel)) rfl
theorem kw_514 : Cond.instanceMethod yM_drawAll ∈ gt := gt_in (List.mem_of_getElem? (i := 514) (by decide +kernel)) rfl
theorem kw_515 : Cond.code yM_drawAll bM_drawAll 6 none ∈ gt := gt_in (List.mem_of_getElem? (i := 515) (by decide +kernel)) rfl
theorem kw_516 : Cond.methodLink "TendonLossesModel" 106 yM_draw ∈ gt := gt_in (List.mem_of_getElem? (i := 516) (by decide +kernel)) rfl
theorem kw_518 : Cond.instanceMethod yM_draw ∈ gt := gt_in (List.mem_of_getElem? (i := 518) (by decide +kernel)) rfl
theorem kw_519 : Cond.code yM_draw bM_draw 13 none ∈ gt := gt_in (List.mem_of_getElem? (i := 519) (by decide +kernel)) rfl
theorem kw_520 : Cond.methodLink "TendonLossesModel" 91 yM_lengthOf ∈ gt := gt_in (List.mem_of_getElem? (i := 520) (by decide +kernel)) rfl
theorem kw_522 : Cond.instanceMethod yM_lengthOf ∈ gt := gt_in (List.mem_of_getElem? (i := 522) (by decide +kernel)) rfl
theorem kw_523 : Cond.code yM_lengthOf bM_lengthOf 7 (some .long) ∈ gt := gt_in (List.mem_of_getElem? (i := 523) (by decide +kernel)) rfl
theorem kw_524 : Cond.methodLink "TendonLossesModel" 79 yM_root ∈ gt := gt_in (List.mem_of_getElem? (i := 524) (by decide +kernel)) rfl
theorem kw_525 : Cond.static yM_root ∈ gt := gt_in (List.mem_of_getElem? (i := 525) (by decide +kernel)) rfl
theorem kw_526 : Cond.code yM_root bM_root 8 (some .long) ∈ gt := gt_in (List.mem_of_getElem? (i := 526) (by decide +kernel)) rfl
theorem kw_527 : Cond.constantLong "TendonLossesModel" 75 200000 ∈ gt := gt_in (List.mem_of_getElem? (i := 527) (by decide +kernel)) rfl
theorem kw_528 : Cond.constantLong "TendonLossesModel" 77 2 ∈ gt := gt_in (List.mem_of_getElem? (i := 528) (by decide +kernel)) rfl
theorem kw_529 : Cond.methodLink "TendonLossesModel" 95 yM_byRough ∈ gt := gt_in (List.mem_of_getElem? (i := 529) (by decide +kernel)) rfl
theorem kw_531 : Cond.instanceMethod yM_byRough ∈ gt := gt_in (List.mem_of_getElem? (i := 531) (by decide +kernel)) rfl
theorem kw_532 : Cond.code yM_byRough bM_byRough 5 (some .long) ∈ gt := gt_in (List.mem_of_getElem? (i := 532) (by decide +kernel)) rfl
theorem kw_533 : Cond.constantLong "TendonLossesModel" 87 1000000000 ∈ gt := gt_in (List.mem_of_getElem? (i := 533) (by decide +kernel)) rfl
theorem kw_534 : Cond.methodLink "TendonLossesModel" 99 yM_turnOf ∈ gt := gt_in (List.mem_of_getElem? (i := 534) (by decide +kernel)) rfl
theorem kw_536 : Cond.instanceMethod yM_turnOf ∈ gt := gt_in (List.mem_of_getElem? (i := 536) (by decide +kernel)) rfl
theorem kw_537 : Cond.code yM_turnOf bM_turnOf 4 (some .int) ∈ gt := gt_in (List.mem_of_getElem? (i := 537) (by decide +kernel)) rfl
theorem kw_538 : Cond.methodLink "TendonLossesModel" 83 yM_slopeOf ∈ gt := gt_in (List.mem_of_getElem? (i := 538) (by decide +kernel)) rfl
theorem kw_540 : Cond.instanceMethod yM_slopeOf ∈ gt := gt_in (List.mem_of_getElem? (i := 540) (by decide +kernel)) rfl
theorem kw_541 : Cond.code yM_slopeOf bM_slopeOf 5 (some .int) ∈ gt := gt_in (List.mem_of_getElem? (i := 541) (by decide +kernel)) rfl
theorem kw_542 : Cond.methodLink "TendonLossesModel" 102 yM_byTurn ∈ gt := gt_in (List.mem_of_getElem? (i := 542) (by decide +kernel)) rfl
theorem kw_544 : Cond.instanceMethod yM_byTurn ∈ gt := gt_in (List.mem_of_getElem? (i := 544) (by decide +kernel)) rfl
theorem kw_545 : Cond.code yM_byTurn bM_byTurn 4 (some .long) ∈ gt := gt_in (List.mem_of_getElem? (i := 545) (by decide +kernel)) rfl
theorem kw_546 : Cond.constantLong "TendonLossesModel" 89 1000000 ∈ gt := gt_in (List.mem_of_getElem? (i := 546) (by decide +kernel)) rfl
theorem kw_547 : Cond.methodLink "TendonLossesModel" 119 yM_longerOf ∈ gt := gt_in (List.mem_of_getElem? (i := 547) (by decide +kernel)) rfl
theorem kw_549 : Cond.instanceMethod yM_longerOf ∈ gt := gt_in (List.mem_of_getElem? (i := 549) (by decide +kernel)) rfl
theorem kw_550 : Cond.code yM_longerOf bM_longerOf 7 (some .int) ∈ gt := gt_in (List.mem_of_getElem? (i := 550) (by decide +kernel)) rfl
theorem kw_551 : Cond.constantLong "TendonLossesModel" 110 1000 ∈ gt := gt_in (List.mem_of_getElem? (i := 551) (by decide +kernel)) rfl
theorem kw_552 : Cond.constantLong "TendonLossesModel" 112 195000 ∈ gt := gt_in (List.mem_of_getElem? (i := 552) (by decide +kernel)) rfl
theorem kw_557 : Cond.methodLink "TendonLossesModel" 127 yM_letSlip ∈ gt := gt_in (List.mem_of_getElem? (i := 557) (by decide +kernel)) rfl
theorem kw_559 : Cond.instanceMethod yM_letSlip ∈ gt := gt_in (List.mem_of_getElem? (i := 559) (by decide +kernel)) rfl
theorem kw_560 : Cond.code yM_letSlip bM_letSlip 10 none ∈ gt := gt_in (List.mem_of_getElem? (i := 560) (by decide +kernel)) rfl
theorem kw_561 : Cond.methodLink "TendonLossesModel" 123 yM_tryOut ∈ gt := gt_in (List.mem_of_getElem? (i := 561) (by decide +kernel)) rfl
theorem kw_563 : Cond.instanceMethod yM_tryOut ∈ gt := gt_in (List.mem_of_getElem? (i := 563) (by decide +kernel)) rfl
theorem kw_564 : Cond.code yM_tryOut bM_tryOut 14 (some .long) ∈ gt := gt_in (List.mem_of_getElem? (i := 564) (by decide +kernel)) rfl
theorem kw_569 : Cond.methodLink "TendonLossesModel" 134 yM_hasForces ∈ gt := gt_in (List.mem_of_getElem? (i := 569) (by decide +kernel)) rfl
theorem kw_571 : Cond.instanceMethod yM_hasForces ∈ gt := gt_in (List.mem_of_getElem? (i := 571) (by decide +kernel)) rfl
theorem kw_572 : Cond.code yM_hasForces bM_hasForces 2 (some .boolean) ∈ gt := gt_in (List.mem_of_getElem? (i := 572) (by decide +kernel)) rfl
theorem kw_597 : Cond.constant "TendonLossesModel" 140 (-2000000000) ∈ gt := gt_in (List.mem_of_getElem? (i := 597) (by decide +kernel)) rfl
theorem kw_602 : Cond.methodLink "TendonLossesModel" 144 yM_apart ∈ gt := gt_in (List.mem_of_getElem? (i := 602) (by decide +kernel)) rfl
theorem kw_604 : Cond.instanceMethod yM_apart ∈ gt := gt_in (List.mem_of_getElem? (i := 604) (by decide +kernel)) rfl
theorem kw_605 : Cond.code yM_apart bM_apart 14 (some .long) ∈ gt := gt_in (List.mem_of_getElem? (i := 605) (by decide +kernel)) rfl
theorem kw_606 : Cond.methodLink "TendonLossesModel" 141 yM_pieceAt ∈ gt := gt_in (List.mem_of_getElem? (i := 606) (by decide +kernel)) rfl
theorem kw_608 : Cond.instanceMethod yM_pieceAt ∈ gt := gt_in (List.mem_of_getElem? (i := 608) (by decide +kernel)) rfl
theorem kw_609 : Cond.code yM_pieceAt bM_pieceAt 4 (some .int) ∈ gt := gt_in (List.mem_of_getElem? (i := 609) (by decide +kernel)) rfl
theorem kw_610 : Cond.methodLink "TendonLossesModel" 148 yM_unit ∈ gt := gt_in (List.mem_of_getElem? (i := 610) (by decide +kernel)) rfl
theorem kw_612 : Cond.instanceMethod yM_unit ∈ gt := gt_in (List.mem_of_getElem? (i := 612) (by decide +kernel)) rfl
theorem kw_613 : Cond.code yM_unit bM_unit 6 (some .long) ∈ gt := gt_in (List.mem_of_getElem? (i := 613) (by decide +kernel)) rfl
theorem kw_622 : Cond.constant "TendonLossesModel" 151 200000 ∈ gt := gt_in (List.mem_of_getElem? (i := 622) (by decide +kernel)) rfl
