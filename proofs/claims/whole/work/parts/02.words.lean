theorem kw_0 : Cond.selects "TendonLosses" yL_find yL_find ∈ gt := gt_in (List.mem_of_getElem? (i := 0) (by decide +kernel)) rfl
theorem kw_1 : Cond.selects "TendonLosses$Duct" yD_measurePiece yD_measurePiece ∈ gt := gt_in (List.mem_of_getElem? (i := 1) (by decide +kernel)) rfl
theorem kw_2 : Cond.selects "TendonLosses$Tendon" yT_strain yT_strain ∈ gt := gt_in (List.mem_of_getElem? (i := 2) (by decide +kernel)) rfl
theorem kw_3 : Cond.selects "TendonLosses$Tendon" yT_strainFromEnd yT_strainFromEnd ∈ gt := gt_in (List.mem_of_getElem? (i := 3) (by decide +kernel)) rfl
theorem kw_4 : Cond.selects "TendonLosses$Tendon" yT_stretchOf yT_stretchOf ∈ gt := gt_in (List.mem_of_getElem? (i := 4) (by decide +kernel)) rfl
theorem kw_5 : Cond.selects "TendonLosses$Tendon" yT_slipAtEnd yT_slipAtEnd ∈ gt := gt_in (List.mem_of_getElem? (i := 5) (by decide +kernel)) rfl
theorem kw_6 : Cond.selects "TendonLosses$Tendon" yT_tryAnchor yT_tryAnchor ∈ gt := gt_in (List.mem_of_getElem? (i := 6) (by decide +kernel)) rfl
theorem kw_7 : Cond.selects "TendonLosses$Tendon" yT_shortening yT_shortening ∈ gt := gt_in (List.mem_of_getElem? (i := 7) (by decide +kernel)) rfl
theorem kw_8 : Cond.selects "TendonLosses" yL_weakenLockedOnes yL_weakenLockedOnes ∈ gt := gt_in (List.mem_of_getElem? (i := 8) (by decide +kernel)) rfl
theorem kw_9 : Cond.selects "TendonLosses" yL_forgetLocked yL_forgetLocked ∈ gt := gt_in (List.mem_of_getElem? (i := 9) (by decide +kernel)) rfl
theorem kw_10 : Cond.selects "TendonLosses" yL_findStrained yL_findStrained ∈ gt := gt_in (List.mem_of_getElem? (i := 10) (by decide +kernel)) rfl
theorem kw_11 : Cond.selects "TendonLosses$Duct" yD_scaledHeight yD_scaledHeight ∈ gt := gt_in (List.mem_of_getElem? (i := 11) (by decide +kernel)) rfl
theorem kw_12 : Cond.selects "TendonLosses" yL_countPulled yL_countPulled ∈ gt := gt_in (List.mem_of_getElem? (i := 12) (by decide +kernel)) rfl
theorem kw_13 : Cond.selects "TendonLosses" yL_countPoints yL_countPoints ∈ gt := gt_in (List.mem_of_getElem? (i := 13) (by decide +kernel)) rfl
theorem kw_14 : Cond.selects "TendonLossesModel" yM_isTendon yM_isTendon ∈ gt := gt_in (List.mem_of_getElem? (i := 14) (by decide +kernel)) rfl
theorem kw_15 : Cond.selects "TendonLossesModel" yM_drawAll yM_drawAll ∈ gt := gt_in (List.mem_of_getElem? (i := 15) (by decide +kernel)) rfl
theorem kw_16 : Cond.selects "TendonLossesModel" yM_draw yM_draw ∈ gt := gt_in (List.mem_of_getElem? (i := 16) (by decide +kernel)) rfl
theorem kw_17 : Cond.selects "TendonLossesModel" yM_lengthOf yM_lengthOf ∈ gt := gt_in (List.mem_of_getElem? (i := 17) (by decide +kernel)) rfl
theorem kw_18 : Cond.selects "TendonLossesModel" yM_byRough yM_byRough ∈ gt := gt_in (List.mem_of_getElem? (i := 18) (by decide +kernel)) rfl
theorem kw_19 : Cond.selects "TendonLossesModel" yM_turnOf yM_turnOf ∈ gt := gt_in (List.mem_of_getElem? (i := 19) (by decide +kernel)) rfl
theorem kw_20 : Cond.selects "TendonLossesModel" yM_slopeOf yM_slopeOf ∈ gt := gt_in (List.mem_of_getElem? (i := 20) (by decide +kernel)) rfl
theorem kw_21 : Cond.selects "TendonLossesModel" yM_byTurn yM_byTurn ∈ gt := gt_in (List.mem_of_getElem? (i := 21) (by decide +kernel)) rfl
theorem kw_22 : Cond.selects "TendonLossesModel" yM_longerOf yM_longerOf ∈ gt := gt_in (List.mem_of_getElem? (i := 22) (by decide +kernel)) rfl
theorem kw_23 : Cond.selects "TendonLossesModel" yM_letSlip yM_letSlip ∈ gt := gt_in (List.mem_of_getElem? (i := 23) (by decide +kernel)) rfl
theorem kw_24 : Cond.selects "TendonLossesModel" yM_tryOut yM_tryOut ∈ gt := gt_in (List.mem_of_getElem? (i := 24) (by decide +kernel)) rfl
theorem kw_25 : Cond.selects "TendonLossesModel" yM_hasForces yM_hasForces ∈ gt := gt_in (List.mem_of_getElem? (i := 25) (by decide +kernel)) rfl
theorem kw_26 : Cond.selects "TendonLossesModel" yM_apart yM_apart ∈ gt := gt_in (List.mem_of_getElem? (i := 26) (by decide +kernel)) rfl
theorem kw_27 : Cond.selects "TendonLossesModel" yM_pieceAt yM_pieceAt ∈ gt := gt_in (List.mem_of_getElem? (i := 27) (by decide +kernel)) rfl
theorem kw_28 : Cond.selects "TendonLossesModel" yM_unit yM_unit ∈ gt := gt_in (List.mem_of_getElem? (i := 28) (by decide +kernel)) rfl
theorem kw_29 : Cond.initialized "TendonLossesLaw" ∈ gt := gt_in (List.mem_of_getElem? (i := 29) (by decide +kernel)) rfl
theorem kw_30 : Cond.initialized "TendonLosses" ∈ gt := gt_in (List.mem_of_getElem? (i := 30) (by decide +kernel)) rfl
theorem kw_31 : Cond.initialized "TendonLosses$Friction" ∈ gt := gt_in (List.mem_of_getElem? (i := 31) (by decide +kernel)) rfl
theorem kw_32 : Cond.initialized "TendonLossesModel" ∈ gt := gt_in (List.mem_of_getElem? (i := 32) (by decide +kernel)) rfl
theorem kw_33 : Cond.initialized "TendonLosses$Tendon" ∈ gt := gt_in (List.mem_of_getElem? (i := 33) (by decide +kernel)) rfl
theorem kw_34 : Cond.initialized "TendonLosses$Duct" ∈ gt := gt_in (List.mem_of_getElem? (i := 34) (by decide +kernel)) rfl
theorem kw_35 : Cond.initialized "java/lang/Math" ∈ gt := gt_in (List.mem_of_getElem? (i := 35) (by decide +kernel)) rfl
theorem kw_36 : Cond.classLink "TendonLossesLaw" 7 "TendonLosses" ∈ gt := gt_in (List.mem_of_getElem? (i := 36) (by decide +kernel)) rfl
theorem kw_37 : Cond.instantiable "TendonLosses" 9 ∈ gt := gt_in (List.mem_of_getElem? (i := 37) (by decide +kernel)) rfl
theorem kw_38 : Cond.methodLink "TendonLossesLaw" 9 yL_init ∈ gt := gt_in (List.mem_of_getElem? (i := 38) (by decide +kernel)) rfl
theorem kw_39 : Cond.instanceMethod yL_init ∈ gt := gt_in (List.mem_of_getElem? (i := 39) (by decide +kernel)) rfl
theorem kw_40 : Cond.code yL_init bL_init 1 none ∈ gt := gt_in (List.mem_of_getElem? (i := 40) (by decide +kernel)) rfl
theorem kw_41 : Cond.methodLink "TendonLosses" 1 objectInit ∈ gt := gt_in (List.mem_of_getElem? (i := 41) (by decide +kernel)) rfl
theorem kw_42 : Cond.instanceMethod objectInit ∈ gt := gt_in (List.mem_of_getElem? (i := 42) (by decide +kernel)) rfl
theorem kw_43 : Cond.code objectInit ⟨#[0xb1]⟩ 1 none ∈ gt := gt_in (List.mem_of_getElem? (i := 43) (by decide +kernel)) rfl
theorem kw_44 : Cond.classLink "TendonLosses" 9 "TendonLosses$Tendon" ∈ gt := gt_in (List.mem_of_getElem? (i := 44) (by decide +kernel)) rfl
theorem kw_46 : Cond.classLink "TendonLosses" 19 "TendonLosses$Friction" ∈ gt := gt_in (List.mem_of_getElem? (i := 46) (by decide +kernel)) rfl
theorem kw_47 : Cond.instantiable "TendonLosses$Friction" 2 ∈ gt := gt_in (List.mem_of_getElem? (i := 47) (by decide +kernel)) rfl
theorem kw_48 : Cond.methodLink "TendonLosses" 21 yF_init ∈ gt := gt_in (List.mem_of_getElem? (i := 48) (by decide +kernel)) rfl
theorem kw_49 : Cond.instanceMethod yF_init ∈ gt := gt_in (List.mem_of_getElem? (i := 49) (by decide +kernel)) rfl
theorem kw_50 : Cond.code yF_init bF_init 1 none ∈ gt := gt_in (List.mem_of_getElem? (i := 50) (by decide +kernel)) rfl
theorem kw_51 : Cond.methodLink "TendonLosses$Friction" 3 objectInit ∈ gt := gt_in (List.mem_of_getElem? (i := 51) (by decide +kernel)) rfl
theorem kw_52 : Cond.fieldLink "TendonLosses$Friction" 9 "TendonLosses$Friction" "rough" "I" ∈ gt := gt_in (List.mem_of_getElem? (i := 52) (by decide +kernel)) rfl
theorem kw_53 : Cond.fieldLink "TendonLosses" 76 "TendonLosses$Friction" "rough" "I" ∈ gt := gt_in (List.mem_of_getElem? (i := 53) (by decide +kernel)) rfl
theorem kw_54 : Cond.fieldLink "TendonLosses$Friction" 15 "TendonLosses$Friction" "mu" "I" ∈ gt := gt_in (List.mem_of_getElem? (i := 54) (by decide +kernel)) rfl
theorem kw_55 : Cond.fieldLink "TendonLosses" 79 "TendonLosses$Friction" "mu" "I" ∈ gt := gt_in (List.mem_of_getElem? (i := 55) (by decide +kernel)) rfl
theorem kw_61 : Cond.arrayClass .int ∈ gt := gt_in (List.mem_of_getElem? (i := 61) (by decide +kernel)) rfl
theorem kw_62 : Cond.fieldLink "TendonLosses" 11 "TendonLosses" "tendons" "[LTendonLosses$Tendon;" ∈ gt := gt_in (List.mem_of_getElem? (i := 62) (by decide +kernel)) rfl
theorem kw_63 : Cond.fieldLink "TendonLosses" 15 "TendonLosses" "lockedOnes" "[I" ∈ gt := gt_in (List.mem_of_getElem? (i := 63) (by decide +kernel)) rfl
theorem kw_64 : Cond.fieldLink "TendonLosses" 22 "TendonLosses" "friction" "LTendonLosses$Friction;" ∈ gt := gt_in (List.mem_of_getElem? (i := 64) (by decide +kernel)) rfl
theorem kw_65 : Cond.fieldLink "TendonLosses" 26 "TendonLosses" "tendonCount" "I" ∈ gt := gt_in (List.mem_of_getElem? (i := 65) (by decide +kernel)) rfl
theorem kw_66 : Cond.fieldLink "TendonLosses" 30 "TendonLosses" "lockedCount" "I" ∈ gt := gt_in (List.mem_of_getElem? (i := 66) (by decide +kernel)) rfl
theorem kw_67 : Cond.fieldLink "TendonLosses" 33 "TendonLosses" "dayCount" "I" ∈ gt := gt_in (List.mem_of_getElem? (i := 67) (by decide +kernel)) rfl
theorem kw_68 : Cond.fieldLink "TendonLosses" 36 "TendonLosses" "slip" "I" ∈ gt := gt_in (List.mem_of_getElem? (i := 68) (by decide +kernel)) rfl
theorem kw_69 : Cond.fieldLink "TendonLosses" 39 "TendonLosses" "share" "I" ∈ gt := gt_in (List.mem_of_getElem? (i := 69) (by decide +kernel)) rfl
theorem kw_70 : Cond.fieldLink "TendonLosses" 42 "TendonLosses" "fade" "I" ∈ gt := gt_in (List.mem_of_getElem? (i := 70) (by decide +kernel)) rfl
theorem kw_90 : Cond.methodLink "TendonLossesLaw" 13 yL_tendon ∈ gt := gt_in (List.mem_of_getElem? (i := 90) (by decide +kernel)) rfl
theorem kw_91 : Cond.instanceMethod yL_tendon ∈ gt := gt_in (List.mem_of_getElem? (i := 91) (by decide +kernel)) rfl
theorem kw_92 : Cond.selects "TendonLosses" yL_tendon yL_tendon ∈ gt := gt_in (List.mem_of_getElem? (i := 92) (by decide +kernel)) rfl
theorem kw_93 : Cond.code yL_tendon bL_tendon 3 (some .int) ∈ gt := gt_in (List.mem_of_getElem? (i := 93) (by decide +kernel)) rfl
theorem kw_94 : Cond.methodLink "TendonLosses" 45 yL_isWithin ∈ gt := gt_in (List.mem_of_getElem? (i := 94) (by decide +kernel)) rfl
theorem kw_95 : Cond.static yL_isWithin ∈ gt := gt_in (List.mem_of_getElem? (i := 95) (by decide +kernel)) rfl
theorem kw_96 : Cond.code yL_isWithin bL_isWithin 3 (some .boolean) ∈ gt := gt_in (List.mem_of_getElem? (i := 96) (by decide +kernel)) rfl
theorem kw_97 : Cond.instantiable "TendonLosses$Tendon" 7 ∈ gt := gt_in (List.mem_of_getElem? (i := 97) (by decide +kernel)) rfl
theorem kw_98 : Cond.methodLink "TendonLosses" 49 yT_init ∈ gt := gt_in (List.mem_of_getElem? (i := 98) (by decide +kernel)) rfl
theorem kw_99 : Cond.instanceMethod yT_init ∈ gt := gt_in (List.mem_of_getElem? (i := 99) (by decide +kernel)) rfl
theorem kw_100 : Cond.code yT_init bT_init 2 none ∈ gt := gt_in (List.mem_of_getElem? (i := 100) (by decide +kernel)) rfl
theorem kw_101 : Cond.methodLink "TendonLosses$Tendon" 3 objectInit ∈ gt := gt_in (List.mem_of_getElem? (i := 101) (by decide +kernel)) rfl
theorem kw_102 : Cond.classLink "TendonLosses$Tendon" 15 "TendonLosses$Duct" ∈ gt := gt_in (List.mem_of_getElem? (i := 102) (by decide +kernel)) rfl
theorem kw_103 : Cond.instantiable "TendonLosses$Duct" 5 ∈ gt := gt_in (List.mem_of_getElem? (i := 103) (by decide +kernel)) rfl
theorem kw_104 : Cond.methodLink "TendonLosses$Tendon" 17 yD_init ∈ gt := gt_in (List.mem_of_getElem? (i := 104) (by decide +kernel)) rfl
theorem kw_105 : Cond.instanceMethod yD_init ∈ gt := gt_in (List.mem_of_getElem? (i := 105) (by decide +kernel)) rfl
theorem kw_106 : Cond.code yD_init bD_init 1 none ∈ gt := gt_in (List.mem_of_getElem? (i := 106) (by decide +kernel)) rfl
theorem kw_107 : Cond.methodLink "TendonLosses$Duct" 3 objectInit ∈ gt := gt_in (List.mem_of_getElem? (i := 107) (by decide +kernel)) rfl
theorem kw_108 : Cond.fieldLink "TendonLosses$Duct" 9 "TendonLosses$Duct" "xs" "[I" ∈ gt := gt_in (List.mem_of_getElem? (i := 108) (by decide +kernel)) rfl
theorem kw_109 : Cond.fieldLink "TendonLosses$Tendon" 107 "TendonLosses$Duct" "xs" "[I" ∈ gt := gt_in (List.mem_of_getElem? (i := 109) (by decide +kernel)) rfl
theorem kw_110 : Cond.fieldLink "TendonLosses$Duct" 15 "TendonLosses$Duct" "ys" "[I" ∈ gt := gt_in (List.mem_of_getElem? (i := 110) (by decide +kernel)) rfl
theorem kw_111 : Cond.fieldLink "TendonLosses$Duct" 18 "TendonLosses$Duct" "lengths" "[I" ∈ gt := gt_in (List.mem_of_getElem? (i := 111) (by decide +kernel)) rfl
theorem kw_112 : Cond.fieldLink "TendonLosses$Tendon" 92 "TendonLosses$Duct" "lengths" "[I" ∈ gt := gt_in (List.mem_of_getElem? (i := 112) (by decide +kernel)) rfl
theorem kw_113 : Cond.fieldLink "TendonLosses" 136 "TendonLosses$Duct" "lengths" "[I" ∈ gt := gt_in (List.mem_of_getElem? (i := 113) (by decide +kernel)) rfl
theorem kw_114 : Cond.fieldLink "TendonLosses$Duct" 21 "TendonLosses$Duct" "slopes" "[I" ∈ gt := gt_in (List.mem_of_getElem? (i := 114) (by decide +kernel)) rfl
theorem kw_115 : Cond.fieldLink "TendonLosses" 139 "TendonLosses$Duct" "slopes" "[I" ∈ gt := gt_in (List.mem_of_getElem? (i := 115) (by decide +kernel)) rfl
theorem kw_116 : Cond.fieldLink "TendonLosses$Duct" 24 "TendonLosses$Duct" "size" "I" ∈ gt := gt_in (List.mem_of_getElem? (i := 116) (by decide +kernel)) rfl
theorem kw_117 : Cond.fieldLink "TendonLosses$Tendon" 42 "TendonLosses$Duct" "size" "I" ∈ gt := gt_in (List.mem_of_getElem? (i := 117) (by decide +kernel)) rfl
theorem kw_118 : Cond.fieldLink "TendonLosses" 73 "TendonLosses$Duct" "size" "I" ∈ gt := gt_in (List.mem_of_getElem? (i := 118) (by decide +kernel)) rfl
theorem kw_130 : Cond.fieldLink "TendonLosses$Tendon" 18 "TendonLosses$Tendon" "duct" "LTendonLosses$Duct;" ∈ gt := gt_in (List.mem_of_getElem? (i := 130) (by decide +kernel)) rfl
theorem kw_131 : Cond.fieldLink "TendonLosses" 59 "TendonLosses$Tendon" "duct" "LTendonLosses$Duct;" ∈ gt := gt_in (List.mem_of_getElem? (i := 131) (by decide +kernel)) rfl
theorem kw_132 : Cond.fieldLink "TendonLosses$Tendon" 9 "TendonLosses$Tendon" "area" "I" ∈ gt := gt_in (List.mem_of_getElem? (i := 132) (by decide +kernel)) rfl
theorem kw_133 : Cond.fieldLink "TendonLosses$Tendon" 22 "TendonLosses$Tendon" "forces" "[J" ∈ gt := gt_in (List.mem_of_getElem? (i := 133) (by decide +kernel)) rfl
theorem kw_134 : Cond.fieldLink "TendonLosses" 121 "TendonLosses$Tendon" "forces" "[J" ∈ gt := gt_in (List.mem_of_getElem? (i := 134) (by decide +kernel)) rfl
theorem kw_135 : Cond.fieldLink "TendonLosses$Tendon" 26 "TendonLosses$Tendon" "tried" "[J" ∈ gt := gt_in (List.mem_of_getElem? (i := 135) (by decide +kernel)) rfl
theorem kw_136 : Cond.fieldLink "TendonLosses$Tendon" 29 "TendonLosses$Tendon" "state" "I" ∈ gt := gt_in (List.mem_of_getElem? (i := 136) (by decide +kernel)) rfl
theorem kw_137 : Cond.fieldLink "TendonLosses" 56 "TendonLosses$Tendon" "state" "I" ∈ gt := gt_in (List.mem_of_getElem? (i := 137) (by decide +kernel)) rfl
theorem kw_138 : Cond.fieldLink "TendonLosses$Tendon" 32 "TendonLosses$Tendon" "pulledFrom" "I" ∈ gt := gt_in (List.mem_of_getElem? (i := 138) (by decide +kernel)) rfl
theorem kw_139 : Cond.fieldLink "TendonLosses$Tendon" 35 "TendonLosses$Tendon" "pulledWith" "I" ∈ gt := gt_in (List.mem_of_getElem? (i := 139) (by decide +kernel)) rfl
theorem kw_155 : Cond.arrayClass .long ∈ gt := gt_in (List.mem_of_getElem? (i := 155) (by decide +kernel)) rfl
theorem kw_156 : Cond.methodLink "TendonLossesLaw" 18 yL_point ∈ gt := gt_in (List.mem_of_getElem? (i := 156) (by decide +kernel)) rfl
theorem kw_157 : Cond.instanceMethod yL_point ∈ gt := gt_in (List.mem_of_getElem? (i := 157) (by decide +kernel)) rfl
theorem kw_158 : Cond.selects "TendonLosses" yL_point yL_point ∈ gt := gt_in (List.mem_of_getElem? (i := 158) (by decide +kernel)) rfl
theorem kw_159 : Cond.code yL_point bL_point 5 (some .int) ∈ gt := gt_in (List.mem_of_getElem? (i := 159) (by decide +kernel)) rfl
theorem kw_160 : Cond.methodLink "TendonLosses" 52 yL_find ∈ gt := gt_in (List.mem_of_getElem? (i := 160) (by decide +kernel)) rfl
theorem kw_162 : Cond.instanceMethod yL_find ∈ gt := gt_in (List.mem_of_getElem? (i := 162) (by decide +kernel)) rfl
theorem kw_163 : Cond.code yL_find bL_find 2 (some (.object "TendonLosses$Tendon")) ∈ gt := gt_in (List.mem_of_getElem? (i := 163) (by decide +kernel)) rfl
theorem kw_164 : Cond.methodLink "TendonLosses" 63 yD_mayGoOnTo ∈ gt := gt_in (List.mem_of_getElem? (i := 164) (by decide +kernel)) rfl
theorem kw_165 : Cond.instanceMethod yD_mayGoOnTo ∈ gt := gt_in (List.mem_of_getElem? (i := 165) (by decide +kernel)) rfl
theorem kw_166 : Cond.selects "TendonLosses$Duct" yD_mayGoOnTo yD_mayGoOnTo ∈ gt := gt_in (List.mem_of_getElem? (i := 166) (by decide +kernel)) rfl
theorem kw_167 : Cond.code yD_mayGoOnTo bD_mayGoOnTo 4 (some .boolean) ∈ gt := gt_in (List.mem_of_getElem? (i := 167) (by decide +kernel)) rfl
theorem kw_169 : Cond.constant "TendonLosses$Duct" 32 100000 ∈ gt := gt_in (List.mem_of_getElem? (i := 169) (by decide +kernel)) rfl
theorem kw_170 : Cond.methodLink "TendonLosses" 69 yD_goOnTo ∈ gt := gt_in (List.mem_of_getElem? (i := 170) (by decide +kernel)) rfl
theorem kw_171 : Cond.instanceMethod yD_goOnTo ∈ gt := gt_in (List.mem_of_getElem? (i := 171) (by decide +kernel)) rfl
theorem kw_172 : Cond.selects "TendonLosses$Duct" yD_goOnTo yD_goOnTo ∈ gt := gt_in (List.mem_of_getElem? (i := 172) (by decide +kernel)) rfl
theorem kw_173 : Cond.code yD_goOnTo bD_goOnTo 3 none ∈ gt := gt_in (List.mem_of_getElem? (i := 173) (by decide +kernel)) rfl
theorem kw_174 : Cond.methodLink "TendonLosses$Duct" 33 yD_measurePiece ∈ gt := gt_in (List.mem_of_getElem? (i := 174) (by decide +kernel)) rfl
theorem kw_176 : Cond.instanceMethod yD_measurePiece ∈ gt := gt_in (List.mem_of_getElem? (i := 176) (by decide +kernel)) rfl
theorem kw_177 : Cond.code yD_measurePiece bD_measurePiece 6 none ∈ gt := gt_in (List.mem_of_getElem? (i := 177) (by decide +kernel)) rfl
theorem kw_178 : Cond.methodLink "TendonLosses$Duct" 37 yD_widthOf ∈ gt := gt_in (List.mem_of_getElem? (i := 178) (by decide +kernel)) rfl
theorem kw_179 : Cond.instanceMethod yD_widthOf ∈ gt := gt_in (List.mem_of_getElem? (i := 179) (by decide +kernel)) rfl
theorem kw_180 : Cond.selects "TendonLosses$Duct" yD_widthOf yD_widthOf ∈ gt := gt_in (List.mem_of_getElem? (i := 180) (by decide +kernel)) rfl
theorem kw_181 : Cond.code yD_widthOf bD_widthOf 2 (some .int) ∈ gt := gt_in (List.mem_of_getElem? (i := 181) (by decide +kernel)) rfl
theorem kw_182 : Cond.methodLink "TendonLosses$Duct" 41 yD_rootOf ∈ gt := gt_in (List.mem_of_getElem? (i := 182) (by decide +kernel)) rfl
theorem kw_183 : Cond.static yD_rootOf ∈ gt := gt_in (List.mem_of_getElem? (i := 183) (by decide +kernel)) rfl
theorem kw_184 : Cond.code yD_rootOf bD_rootOf 9 (some .int) ∈ gt := gt_in (List.mem_of_getElem? (i := 184) (by decide +kernel)) rfl
theorem kw_185 : Cond.constantLong "TendonLosses$Duct" 51 200000 ∈ gt := gt_in (List.mem_of_getElem? (i := 185) (by decide +kernel)) rfl
theorem kw_186 : Cond.constantLong "TendonLosses$Duct" 53 2 ∈ gt := gt_in (List.mem_of_getElem? (i := 186) (by decide +kernel)) rfl
theorem kw_187 : Cond.constantLong "TendonLosses$Duct" 45 1000 ∈ gt := gt_in (List.mem_of_getElem? (i := 187) (by decide +kernel)) rfl
theorem kw_189 : Cond.static yL_quotient ∈ gt := gt_in (List.mem_of_getElem? (i := 189) (by decide +kernel)) rfl
theorem kw_190 : Cond.code yL_quotient bL_quotient 4 (some .long) ∈ gt := gt_in (List.mem_of_getElem? (i := 190) (by decide +kernel)) rfl
theorem kw_191 : Cond.methodLink "TendonLossesLaw" 23 yL_friction ∈ gt := gt_in (List.mem_of_getElem? (i := 191) (by decide +kernel)) rfl
theorem kw_192 : Cond.instanceMethod yL_friction ∈ gt := gt_in (List.mem_of_getElem? (i := 192) (by decide +kernel)) rfl
theorem kw_193 : Cond.selects "TendonLosses" yL_friction yL_friction ∈ gt := gt_in (List.mem_of_getElem? (i := 193) (by decide +kernel)) rfl
theorem kw_194 : Cond.code yL_friction bL_friction 3 (some .boolean) ∈ gt := gt_in (List.mem_of_getElem? (i := 194) (by decide +kernel)) rfl
theorem kw_195 : Cond.methodLink "TendonLossesLaw" 28 yL_losses ∈ gt := gt_in (List.mem_of_getElem? (i := 195) (by decide +kernel)) rfl
theorem kw_196 : Cond.instanceMethod yL_losses ∈ gt := gt_in (List.mem_of_getElem? (i := 196) (by decide +kernel)) rfl
theorem kw_197 : Cond.selects "TendonLosses" yL_losses yL_losses ∈ gt := gt_in (List.mem_of_getElem? (i := 197) (by decide +kernel)) rfl
theorem kw_198 : Cond.code yL_losses bL_losses 4 (some .boolean) ∈ gt := gt_in (List.mem_of_getElem? (i := 198) (by decide +kernel)) rfl
theorem kw_199 : Cond.methodLink "TendonLossesLaw" 33 yL_pull ∈ gt := gt_in (List.mem_of_getElem? (i := 199) (by decide +kernel)) rfl
theorem kw_200 : Cond.instanceMethod yL_pull ∈ gt := gt_in (List.mem_of_getElem? (i := 200) (by decide +kernel)) rfl
theorem kw_201 : Cond.selects "TendonLosses" yL_pull yL_pull ∈ gt := gt_in (List.mem_of_getElem? (i := 201) (by decide +kernel)) rfl
theorem kw_202 : Cond.code yL_pull bL_pull 5 (some .int) ∈ gt := gt_in (List.mem_of_getElem? (i := 202) (by decide +kernel)) rfl
theorem kw_203 : Cond.methodLink "TendonLosses" 82 yD_hasPieces ∈ gt := gt_in (List.mem_of_getElem? (i := 203) (by decide +kernel)) rfl
theorem kw_204 : Cond.instanceMethod yD_hasPieces ∈ gt := gt_in (List.mem_of_getElem? (i := 204) (by decide +kernel)) rfl
theorem kw_205 : Cond.selects "TendonLosses$Duct" yD_hasPieces yD_hasPieces ∈ gt := gt_in (List.mem_of_getElem? (i := 205) (by decide +kernel)) rfl
theorem kw_206 : Cond.code yD_hasPieces bD_hasPieces 1 (some .boolean) ∈ gt := gt_in (List.mem_of_getElem? (i := 206) (by decide +kernel)) rfl
theorem kw_207 : Cond.constant "TendonLosses" 86 10000000 ∈ gt := gt_in (List.mem_of_getElem? (i := 207) (by decide +kernel)) rfl
theorem kw_208 : Cond.methodLink "TendonLosses" 87 yT_startPulling ∈ gt := gt_in (List.mem_of_getElem? (i := 208) (by decide +kernel)) rfl
theorem kw_209 : Cond.instanceMethod yT_startPulling ∈ gt := gt_in (List.mem_of_getElem? (i := 209) (by decide +kernel)) rfl
theorem kw_210 : Cond.selects "TendonLosses$Tendon" yT_startPulling yT_startPulling ∈ gt := gt_in (List.mem_of_getElem? (i := 210) (by decide +kernel)) rfl
theorem kw_211 : Cond.code yT_startPulling bT_startPulling 4 none ∈ gt := gt_in (List.mem_of_getElem? (i := 211) (by decide +kernel)) rfl
theorem kw_212 : Cond.methodLink "TendonLosses$Tendon" 38 yT_strain ∈ gt := gt_in (List.mem_of_getElem? (i := 212) (by decide +kernel)) rfl
theorem kw_214 : Cond.instanceMethod yT_strain ∈ gt := gt_in (List.mem_of_getElem? (i := 214) (by decide +kernel)) rfl
theorem kw_215 : Cond.code yT_strain bT_strain 6 none ∈ gt := gt_in (List.mem_of_getElem? (i := 215) (by decide +kernel)) rfl
theorem kw_216 : Cond.methodLink "TendonLosses$Tendon" 51 yT_strainFromEnd ∈ gt := gt_in (List.mem_of_getElem? (i := 216) (by decide +kernel)) rfl
theorem kw_218 : Cond.instanceMethod yT_strainFromEnd ∈ gt := gt_in (List.mem_of_getElem? (i := 218) (by decide +kernel)) rfl
theorem kw_219 : Cond.code yT_strainFromEnd bT_strainFromEnd 9 none ∈ gt := gt_in (List.mem_of_getElem? (i := 219) (by decide +kernel)) rfl
theorem kw_220 : Cond.methodLink "TendonLosses$Tendon" 54 yD_pointOnWay ∈ gt := gt_in (List.mem_of_getElem? (i := 220) (by decide +kernel)) rfl
theorem kw_221 : Cond.instanceMethod yD_pointOnWay ∈ gt := gt_in (List.mem_of_getElem? (i := 221) (by decide +kernel)) rfl
theorem kw_222 : Cond.selects "TendonLosses$Duct" yD_pointOnWay yD_pointOnWay ∈ gt := gt_in (List.mem_of_getElem? (i := 222) (by decide +kernel)) rfl
theorem kw_223 : Cond.code yD_pointOnWay bD_pointOnWay 3 (some .int) ∈ gt := gt_in (List.mem_of_getElem? (i := 223) (by decide +kernel)) rfl
theorem kw_224 : Cond.methodLink "TendonLosses$Tendon" 58 yD_lengthBefore ∈ gt := gt_in (List.mem_of_getElem? (i := 224) (by decide +kernel)) rfl
theorem kw_225 : Cond.instanceMethod yD_lengthBefore ∈ gt := gt_in (List.mem_of_getElem? (i := 225) (by decide +kernel)) rfl
theorem kw_226 : Cond.selects "TendonLosses$Duct" yD_lengthBefore yD_lengthBefore ∈ gt := gt_in (List.mem_of_getElem? (i := 226) (by decide +kernel)) rfl
theorem kw_227 : Cond.code yD_lengthBefore bD_lengthBefore 3 (some .int) ∈ gt := gt_in (List.mem_of_getElem? (i := 227) (by decide +kernel)) rfl
theorem kw_228 : Cond.methodLink "TendonLosses$Tendon" 61 yF_alongPiece ∈ gt := gt_in (List.mem_of_getElem? (i := 228) (by decide +kernel)) rfl
theorem kw_229 : Cond.instanceMethod yF_alongPiece ∈ gt := gt_in (List.mem_of_getElem? (i := 229) (by decide +kernel)) rfl
theorem kw_230 : Cond.selects "TendonLosses$Friction" yF_alongPiece yF_alongPiece ∈ gt := gt_in (List.mem_of_getElem? (i := 230) (by decide +kernel)) rfl
theorem kw_231 : Cond.code yF_alongPiece bF_alongPiece 4 (some .long) ∈ gt := gt_in (List.mem_of_getElem? (i := 231) (by decide +kernel)) rfl
theorem kw_232 : Cond.constantLong "TendonLosses$Friction" 18 1000000000 ∈ gt := gt_in (List.mem_of_getElem? (i := 232) (by decide +kernel)) rfl
theorem kw_233 : Cond.methodLink "TendonLosses$Tendon" 67 yD_turnAt ∈ gt := gt_in (List.mem_of_getElem? (i := 233) (by decide +kernel)) rfl
theorem kw_234 : Cond.instanceMethod yD_turnAt ∈ gt := gt_in (List.mem_of_getElem? (i := 234) (by decide +kernel)) rfl
theorem kw_235 : Cond.selects "TendonLosses$Duct" yD_turnAt yD_turnAt ∈ gt := gt_in (List.mem_of_getElem? (i := 235) (by decide +kernel)) rfl
theorem kw_236 : Cond.code yD_turnAt bD_turnAt 2 (some .int) ∈ gt := gt_in (List.mem_of_getElem? (i := 236) (by decide +kernel)) rfl
theorem kw_237 : Cond.methodLink "TendonLosses$Duct" 59 yD_bendAt ∈ gt := gt_in (List.mem_of_getElem? (i := 237) (by decide +kernel)) rfl
theorem kw_238 : Cond.instanceMethod yD_bendAt ∈ gt := gt_in (List.mem_of_getElem? (i := 238) (by decide +kernel)) rfl
theorem kw_239 : Cond.selects "TendonLosses$Duct" yD_bendAt yD_bendAt ∈ gt := gt_in (List.mem_of_getElem? (i := 239) (by decide +kernel)) rfl
theorem kw_240 : Cond.code yD_bendAt bD_bendAt 2 (some .int) ∈ gt := gt_in (List.mem_of_getElem? (i := 240) (by decide +kernel)) rfl
theorem kw_241 : Cond.methodLink "TendonLosses$Duct" 55 yD_isBetweenPieces ∈ gt := gt_in (List.mem_of_getElem? (i := 241) (by decide +kernel)) rfl
theorem kw_242 : Cond.instanceMethod yD_isBetweenPieces ∈ gt := gt_in (List.mem_of_getElem? (i := 242) (by decide +kernel)) rfl
theorem kw_243 : Cond.selects "TendonLosses$Duct" yD_isBetweenPieces yD_isBetweenPieces ∈ gt := gt_in (List.mem_of_getElem? (i := 243) (by decide +kernel)) rfl
theorem kw_244 : Cond.code yD_isBetweenPieces bD_isBetweenPieces 2 (some .boolean) ∈ gt := gt_in (List.mem_of_getElem? (i := 244) (by decide +kernel)) rfl
theorem kw_245 : Cond.methodLink "TendonLosses$Duct" 62 Lib.Math.abs.name ∈ gt := gt_in (List.mem_of_getElem? (i := 245) (by decide +kernel)) rfl
theorem kw_246 : Cond.static Lib.Math.abs.name ∈ gt := gt_in (List.mem_of_getElem? (i := 246) (by decide +kernel)) rfl
theorem kw_247 : Cond.code Lib.Math.abs.name Lib.Math.abs.code 1 (some .int) ∈ gt := gt_in (List.mem_of_getElem? (i := 247) (by decide +kernel)) rfl
theorem kw_248 : Cond.methodLink "TendonLosses$Tendon" 71 yF_atTurn ∈ gt := gt_in (List.mem_of_getElem? (i := 248) (by decide +kernel)) rfl
theorem kw_249 : Cond.instanceMethod yF_atTurn ∈ gt := gt_in (List.mem_of_getElem? (i := 249) (by decide +kernel)) rfl
theorem kw_250 : Cond.selects "TendonLosses$Friction" yF_atTurn yF_atTurn ∈ gt := gt_in (List.mem_of_getElem? (i := 250) (by decide +kernel)) rfl
theorem kw_251 : Cond.code yF_atTurn bF_atTurn 4 (some .long) ∈ gt := gt_in (List.mem_of_getElem? (i := 251) (by decide +kernel)) rfl
theorem kw_252 : Cond.constantLong "TendonLosses$Friction" 20 1000000 ∈ gt := gt_in (List.mem_of_getElem? (i := 252) (by decide +kernel)) rfl
theorem kw_253 : Cond.methodLink "TendonLosses$Tendon" 74 Lib.MathLoose.max_long.x ∈ gt := gt_in (List.mem_of_getElem? (i := 253) (by decide +kernel)) rfl
theorem kw_254 : Cond.static Lib.MathLoose.max_long.x ∈ gt := gt_in (List.mem_of_getElem? (i := 254) (by decide +kernel)) rfl
theorem kw_255 : Cond.code Lib.MathLoose.max_long.x Lib.MathLoose.max_long.code 4 (some .long) ∈ gt := gt_in (List.mem_of_getElem? (i := 255) (by decide +kernel)) rfl
theorem kw_256 : Cond.methodLink "TendonLosses" 91 yT_stretch ∈ gt := gt_in (List.mem_of_getElem? (i := 256) (by decide +kernel)) rfl
theorem kw_257 : Cond.instanceMethod yT_stretch ∈ gt := gt_in (List.mem_of_getElem? (i := 257) (by decide +kernel)) rfl
theorem kw_258 : Cond.selects "TendonLosses$Tendon" yT_stretch yT_stretch ∈ gt := gt_in (List.mem_of_getElem? (i := 258) (by decide +kernel)) rfl
theorem kw_259 : Cond.code yT_stretch bT_stretch 4 (some .long) ∈ gt := gt_in (List.mem_of_getElem? (i := 259) (by decide +kernel)) rfl
theorem kw_260 : Cond.methodLink "TendonLosses$Tendon" 88 yT_stretchOf ∈ gt := gt_in (List.mem_of_getElem? (i := 260) (by decide +kernel)) rfl
theorem kw_262 : Cond.instanceMethod yT_stretchOf ∈ gt := gt_in (List.mem_of_getElem? (i := 262) (by decide +kernel)) rfl
theorem kw_263 : Cond.code yT_stretchOf bT_stretchOf 4 (some .long) ∈ gt := gt_in (List.mem_of_getElem? (i := 263) (by decide +kernel)) rfl
theorem kw_264 : Cond.constantLong "TendonLosses$Tendon" 96 1000 ∈ gt := gt_in (List.mem_of_getElem? (i := 264) (by decide +kernel)) rfl
theorem kw_265 : Cond.constantLong "TendonLosses$Tendon" 98 2 ∈ gt := gt_in (List.mem_of_getElem? (i := 265) (by decide +kernel)) rfl
theorem kw_266 : Cond.constantLong "TendonLosses$Tendon" 100 195000 ∈ gt := gt_in (List.mem_of_getElem? (i := 266) (by decide +kernel)) rfl
theorem kw_268 : Cond.methodLink "TendonLossesLaw" 37 yL_lock ∈ gt := gt_in (List.mem_of_getElem? (i := 268) (by decide +kernel)) rfl
theorem kw_269 : Cond.instanceMethod yL_lock ∈ gt := gt_in (List.mem_of_getElem? (i := 269) (by decide +kernel)) rfl
theorem kw_270 : Cond.selects "TendonLosses" yL_lock yL_lock ∈ gt := gt_in (List.mem_of_getElem? (i := 270) (by decide +kernel)) rfl
theorem kw_271 : Cond.code yL_lock bL_lock 5 (some .int) ∈ gt := gt_in (List.mem_of_getElem? (i := 271) (by decide +kernel)) rfl
theorem kw_272 : Cond.methodLink "TendonLosses" 95 yT_slipBack ∈ gt := gt_in (List.mem_of_getElem? (i := 272) (by decide +kernel)) rfl
theorem kw_273 : Cond.instanceMethod yT_slipBack ∈ gt := gt_in (List.mem_of_getElem? (i := 273) (by decide +kernel)) rfl
theorem kw_274 : Cond.selects "TendonLosses$Tendon" yT_slipBack yT_slipBack ∈ gt := gt_in (List.mem_of_getElem? (i := 274) (by decide +kernel)) rfl
theorem kw_275 : Cond.code yT_slipBack bT_slipBack 3 none ∈ gt := gt_in (List.mem_of_getElem? (i := 275) (by decide +kernel)) rfl
theorem kw_276 : Cond.methodLink "TendonLosses$Tendon" 77 yT_slipAtEnd ∈ gt := gt_in (List.mem_of_getElem? (i := 276) (by decide +kernel)) rfl
theorem kw_278 : Cond.instanceMethod yT_slipAtEnd ∈ gt := gt_in (List.mem_of_getElem? (i := 278) (by decide +kernel)) rfl
theorem kw_279 : Cond.code yT_slipAtEnd bT_slipAtEnd 8 none ∈ gt := gt_in (List.mem_of_getElem? (i := 279) (by decide +kernel)) rfl
theorem kw_280 : Cond.methodLink "TendonLosses$Tendon" 81 yT_tryAnchor ∈ gt := gt_in (List.mem_of_getElem? (i := 280) (by decide +kernel)) rfl
theorem kw_282 : Cond.instanceMethod yT_tryAnchor ∈ gt := gt_in (List.mem_of_getElem? (i := 282) (by decide +kernel)) rfl
theorem kw_283 : Cond.code yT_tryAnchor bT_tryAnchor 8 none ∈ gt := gt_in (List.mem_of_getElem? (i := 283) (by decide +kernel)) rfl
theorem kw_284 : Cond.methodLink "TendonLosses$Tendon" 84 yT_shortening ∈ gt := gt_in (List.mem_of_getElem? (i := 284) (by decide +kernel)) rfl
theorem kw_286 : Cond.instanceMethod yT_shortening ∈ gt := gt_in (List.mem_of_getElem? (i := 286) (by decide +kernel)) rfl
theorem kw_287 : Cond.code yT_shortening bT_shortening 4 (some .long) ∈ gt := gt_in (List.mem_of_getElem? (i := 287) (by decide +kernel)) rfl
theorem kw_288 : Cond.methodLink "TendonLosses" 99 yT_meanForce ∈ gt := gt_in (List.mem_of_getElem? (i := 288) (by decide +kernel)) rfl
theorem kw_289 : Cond.instanceMethod yT_meanForce ∈ gt := gt_in (List.mem_of_getElem? (i := 289) (by decide +kernel)) rfl
theorem kw_290 : Cond.selects "TendonLosses$Tendon" yT_meanForce yT_meanForce ∈ gt := gt_in (List.mem_of_getElem? (i := 290) (by decide +kernel)) rfl
theorem kw_291 : Cond.code yT_meanForce bT_meanForce 4 (some .long) ∈ gt := gt_in (List.mem_of_getElem? (i := 291) (by decide +kernel)) rfl
theorem kw_292 : Cond.constantLong "TendonLosses" 102 1000 ∈ gt := gt_in (List.mem_of_getElem? (i := 292) (by decide +kernel)) rfl
theorem kw_293 : Cond.methodLink "TendonLosses" 104 yL_weakenLockedOnes ∈ gt := gt_in (List.mem_of_getElem? (i := 293) (by decide +kernel)) rfl
theorem kw_295 : Cond.instanceMethod yL_weakenLockedOnes ∈ gt := gt_in (List.mem_of_getElem? (i := 295) (by decide +kernel)) rfl
theorem kw_296 : Cond.code yL_weakenLockedOnes bL_weakenLockedOnes 5 none ∈ gt := gt_in (List.mem_of_getElem? (i := 296) (by decide +kernel)) rfl
theorem kw_297 : Cond.methodLink "TendonLosses" 168 yT_loseEverywhere ∈ gt := gt_in (List.mem_of_getElem? (i := 297) (by decide +kernel)) rfl
theorem kw_298 : Cond.instanceMethod yT_loseEverywhere ∈ gt := gt_in (List.mem_of_getElem? (i := 298) (by decide +kernel)) rfl
theorem kw_299 : Cond.selects "TendonLosses$Tendon" yT_loseEverywhere yT_loseEverywhere ∈ gt := gt_in (List.mem_of_getElem? (i := 299) (by decide +kernel)) rfl
theorem kw_300 : Cond.code yT_loseEverywhere bT_loseEverywhere 4 none ∈ gt := gt_in (List.mem_of_getElem? (i := 300) (by decide +kernel)) rfl
theorem kw_301 : Cond.methodLink "TendonLossesLaw" 41 yL_cut ∈ gt := gt_in (List.mem_of_getElem? (i := 301) (by decide +kernel)) rfl
theorem kw_302 : Cond.instanceMethod yL_cut ∈ gt := gt_in (List.mem_of_getElem? (i := 302) (by decide +kernel)) rfl
theorem kw_303 : Cond.selects "TendonLosses" yL_cut yL_cut ∈ gt := gt_in (List.mem_of_getElem? (i := 303) (by decide +kernel)) rfl
theorem kw_304 : Cond.code yL_cut bL_cut 3 (some .boolean) ∈ gt := gt_in (List.mem_of_getElem? (i := 304) (by decide +kernel)) rfl
theorem kw_305 : Cond.methodLink "TendonLosses" 108 yL_forgetLocked ∈ gt := gt_in (List.mem_of_getElem? (i := 305) (by decide +kernel)) rfl
theorem kw_307 : Cond.instanceMethod yL_forgetLocked ∈ gt := gt_in (List.mem_of_getElem? (i := 307) (by decide +kernel)) rfl
theorem kw_308 : Cond.code yL_forgetLocked bL_forgetLocked 4 none ∈ gt := gt_in (List.mem_of_getElem? (i := 308) (by decide +kernel)) rfl
theorem kw_309 : Cond.methodLink "TendonLossesLaw" 46 yL_days ∈ gt := gt_in (List.mem_of_getElem? (i := 309) (by decide +kernel)) rfl
theorem kw_310 : Cond.instanceMethod yL_days ∈ gt := gt_in (List.mem_of_getElem? (i := 310) (by decide +kernel)) rfl
theorem kw_311 : Cond.selects "TendonLosses" yL_days yL_days ∈ gt := gt_in (List.mem_of_getElem? (i := 311) (by decide +kernel)) rfl
theorem kw_312 : Cond.code yL_days bL_days 4 (some .int) ∈ gt := gt_in (List.mem_of_getElem? (i := 312) (by decide +kernel)) rfl
theorem kw_313 : Cond.methodLink "TendonLosses" 111 yT_fadeAway ∈ gt := gt_in (List.mem_of_getElem? (i := 313) (by decide +kernel)) rfl
theorem kw_314 : Cond.instanceMethod yT_fadeAway ∈ gt := gt_in (List.mem_of_getElem? (i := 314) (by decide +kernel)) rfl
theorem kw_315 : Cond.selects "TendonLosses$Tendon" yT_fadeAway yT_fadeAway ∈ gt := gt_in (List.mem_of_getElem? (i := 315) (by decide +kernel)) rfl
theorem kw_316 : Cond.code yT_fadeAway bT_fadeAway 5 none ∈ gt := gt_in (List.mem_of_getElem? (i := 316) (by decide +kernel)) rfl
theorem kw_317 : Cond.constantLong "TendonLosses$Tendon" 105 1000000 ∈ gt := gt_in (List.mem_of_getElem? (i := 317) (by decide +kernel)) rfl
theorem kw_318 : Cond.methodLink "TendonLossesLaw" 50 yL_force ∈ gt := gt_in (List.mem_of_getElem? (i := 318) (by decide +kernel)) rfl
theorem kw_319 : Cond.instanceMethod yL_force ∈ gt := gt_in (List.mem_of_getElem? (i := 319) (by decide +kernel)) rfl
theorem kw_320 : Cond.selects "TendonLosses" yL_force yL_force ∈ gt := gt_in (List.mem_of_getElem? (i := 320) (by decide +kernel)) rfl
theorem kw_321 : Cond.code yL_force bL_force 4 (some .int) ∈ gt := gt_in (List.mem_of_getElem? (i := 321) (by decide +kernel)) rfl
theorem kw_322 : Cond.methodLink "TendonLosses" 114 yL_findStrained ∈ gt := gt_in (List.mem_of_getElem? (i := 322) (by decide +kernel)) rfl
theorem kw_324 : Cond.instanceMethod yL_findStrained ∈ gt := gt_in (List.mem_of_getElem? (i := 324) (by decide +kernel)) rfl
theorem kw_325 : Cond.code yL_findStrained bL_findStrained 3 (some (.object "TendonLosses$Tendon")) ∈ gt := gt_in (List.mem_of_getElem? (i := 325) (by decide +kernel)) rfl
theorem kw_326 : Cond.methodLink "TendonLosses" 117 yD_hasPoint ∈ gt := gt_in (List.mem_of_getElem? (i := 326) (by decide +kernel)) rfl
theorem kw_327 : Cond.instanceMethod yD_hasPoint ∈ gt := gt_in (List.mem_of_getElem? (i := 327) (by decide +kernel)) rfl
theorem kw_328 : Cond.selects "TendonLosses$Duct" yD_hasPoint yD_hasPoint ∈ gt := gt_in (List.mem_of_getElem? (i := 328) (by decide +kernel)) rfl
theorem kw_329 : Cond.code yD_hasPoint bD_hasPoint 2 (some .boolean) ∈ gt := gt_in (List.mem_of_getElem? (i := 329) (by decide +kernel)) rfl
theorem kw_330 : Cond.methodLink "TendonLossesLaw" 55 yL_at ∈ gt := gt_in (List.mem_of_getElem? (i := 330) (by decide +kernel)) rfl
theorem kw_331 : Cond.instanceMethod yL_at ∈ gt := gt_in (List.mem_of_getElem? (i := 331) (by decide +kernel)) rfl
theorem kw_332 : Cond.selects "TendonLosses" yL_at yL_at ∈ gt := gt_in (List.mem_of_getElem? (i := 332) (by decide +kernel)) rfl
theorem kw_333 : Cond.code yL_at bL_at 5 (some .int) ∈ gt := gt_in (List.mem_of_getElem? (i := 333) (by decide +kernel)) rfl
theorem kw_334 : Cond.methodLink "TendonLosses" 125 yD_pieceOver ∈ gt := gt_in (List.mem_of_getElem? (i := 334) (by decide +kernel)) rfl
theorem kw_335 : Cond.instanceMethod yD_pieceOver ∈ gt := gt_in (List.mem_of_getElem? (i := 335) (by decide +kernel)) rfl
theorem kw_336 : Cond.selects "TendonLosses$Duct" yD_pieceOver yD_pieceOver ∈ gt := gt_in (List.mem_of_getElem? (i := 336) (by decide +kernel)) rfl
theorem kw_337 : Cond.code yD_pieceOver bD_pieceOver 3 (some .int) ∈ gt := gt_in (List.mem_of_getElem? (i := 337) (by decide +kernel)) rfl
theorem kw_338 : Cond.methodLink "TendonLosses" 129 yT_forceOn ∈ gt := gt_in (List.mem_of_getElem? (i := 338) (by decide +kernel)) rfl
theorem kw_339 : Cond.instanceMethod yT_forceOn ∈ gt := gt_in (List.mem_of_getElem? (i := 339) (by decide +kernel)) rfl
theorem kw_340 : Cond.selects "TendonLosses$Tendon" yT_forceOn yT_forceOn ∈ gt := gt_in (List.mem_of_getElem? (i := 340) (by decide +kernel)) rfl
theorem kw_341 : Cond.code yT_forceOn bT_forceOn 7 (some .long) ∈ gt := gt_in (List.mem_of_getElem? (i := 341) (by decide +kernel)) rfl
theorem kw_342 : Cond.methodLink "TendonLosses$Tendon" 110 yD_widthOf ∈ gt := gt_in (List.mem_of_getElem? (i := 342) (by decide +kernel)) rfl
theorem kw_343 : Cond.methodLink "TendonLossesLaw" 59 yL_longer ∈ gt := gt_in (List.mem_of_getElem? (i := 343) (by decide +kernel)) rfl
theorem kw_344 : Cond.instanceMethod yL_longer ∈ gt := gt_in (List.mem_of_getElem? (i := 344) (by decide +kernel)) rfl
theorem kw_345 : Cond.selects "TendonLosses" yL_longer yL_longer ∈ gt := gt_in (List.mem_of_getElem? (i := 345) (by decide +kernel)) rfl
theorem kw_346 : Cond.code yL_longer bL_longer 3 (some .int) ∈ gt := gt_in (List.mem_of_getElem? (i := 346) (by decide +kernel)) rfl
theorem kw_347 : Cond.methodLink "TendonLossesLaw" 63 yL_piece ∈ gt := gt_in (List.mem_of_getElem? (i := 347) (by decide +kernel)) rfl
theorem kw_348 : Cond.instanceMethod yL_piece ∈ gt := gt_in (List.mem_of_getElem? (i := 348) (by decide +kernel)) rfl
theorem kw_349 : Cond.selects "TendonLosses" yL_piece yL_piece ∈ gt := gt_in (List.mem_of_getElem? (i := 349) (by decide +kernel)) rfl
theorem kw_350 : Cond.code yL_piece bL_piece 5 (some .int) ∈ gt := gt_in (List.mem_of_getElem? (i := 350) (by decide +kernel)) rfl
theorem kw_351 : Cond.methodLink "TendonLosses" 133 yD_hasPiece ∈ gt := gt_in (List.mem_of_getElem? (i := 351) (by decide +kernel)) rfl
theorem kw_352 : Cond.instanceMethod yD_hasPiece ∈ gt := gt_in (List.mem_of_getElem? (i := 352) (by decide +kernel)) rfl
theorem kw_353 : Cond.selects "TendonLosses$Duct" yD_hasPiece yD_hasPiece ∈ gt := gt_in (List.mem_of_getElem? (i := 353) (by decide +kernel)) rfl
theorem kw_354 : Cond.code yD_hasPiece bD_hasPiece 2 (some .boolean) ∈ gt := gt_in (List.mem_of_getElem? (i := 354) (by decide +kernel)) rfl
theorem kw_355 : Cond.methodLink "TendonLosses" 142 yD_turnAt ∈ gt := gt_in (List.mem_of_getElem? (i := 355) (by decide +kernel)) rfl
theorem kw_356 : Cond.methodLink "TendonLossesLaw" 67 yL_presses ∈ gt := gt_in (List.mem_of_getElem? (i := 356) (by decide +kernel)) rfl
theorem kw_357 : Cond.instanceMethod yL_presses ∈ gt := gt_in (List.mem_of_getElem? (i := 357) (by decide +kernel)) rfl
theorem kw_358 : Cond.selects "TendonLosses" yL_presses yL_presses ∈ gt := gt_in (List.mem_of_getElem? (i := 358) (by decide +kernel)) rfl
theorem kw_359 : Cond.code yL_presses bL_presses 4 (some .int) ∈ gt := gt_in (List.mem_of_getElem? (i := 359) (by decide +kernel)) rfl
theorem kw_360 : Cond.methodLink "TendonLosses" 145 yD_isBetweenPieces ∈ gt := gt_in (List.mem_of_getElem? (i := 360) (by decide +kernel)) rfl
theorem kw_361 : Cond.constant "TendonLosses" 148 (-2000000000) ∈ gt := gt_in (List.mem_of_getElem? (i := 361) (by decide +kernel)) rfl
theorem kw_362 : Cond.methodLink "TendonLosses" 149 yD_bendAt ∈ gt := gt_in (List.mem_of_getElem? (i := 362) (by decide +kernel)) rfl
theorem kw_363 : Cond.methodLink "TendonLossesLaw" 71 yL_clash ∈ gt := gt_in (List.mem_of_getElem? (i := 363) (by decide +kernel)) rfl
theorem kw_364 : Cond.instanceMethod yL_clash ∈ gt := gt_in (List.mem_of_getElem? (i := 364) (by decide +kernel)) rfl
theorem kw_365 : Cond.selects "TendonLosses" yL_clash yL_clash ∈ gt := gt_in (List.mem_of_getElem? (i := 365) (by decide +kernel)) rfl
theorem kw_366 : Cond.code yL_clash bL_clash 6 (some .boolean) ∈ gt := gt_in (List.mem_of_getElem? (i := 366) (by decide +kernel)) rfl
theorem kw_367 : Cond.methodLink "TendonLosses" 152 yD_comeNearer ∈ gt := gt_in (List.mem_of_getElem? (i := 367) (by decide +kernel)) rfl
theorem kw_368 : Cond.static yD_comeNearer ∈ gt := gt_in (List.mem_of_getElem? (i := 368) (by decide +kernel)) rfl
theorem kw_369 : Cond.code yD_comeNearer bD_comeNearer 5 (some .boolean) ∈ gt := gt_in (List.mem_of_getElem? (i := 369) (by decide +kernel)) rfl
theorem kw_370 : Cond.methodLink "TendonLosses$Duct" 67 yD_piecesComeNearer ∈ gt := gt_in (List.mem_of_getElem? (i := 370) (by decide +kernel)) rfl
theorem kw_371 : Cond.static yD_piecesComeNearer ∈ gt := gt_in (List.mem_of_getElem? (i := 371) (by decide +kernel)) rfl
theorem kw_372 : Cond.code yD_piecesComeNearer bD_piecesComeNearer 14 (some .boolean) ∈ gt := gt_in (List.mem_of_getElem? (i := 372) (by decide +kernel)) rfl
theorem kw_373 : Cond.methodLink "TendonLosses$Duct" 71 Lib.Math.max.name ∈ gt := gt_in (List.mem_of_getElem? (i := 373) (by decide +kernel)) rfl
theorem kw_374 : Cond.static Lib.Math.max.name ∈ gt := gt_in (List.mem_of_getElem? (i := 374) (by decide +kernel)) rfl
theorem kw_375 : Cond.code Lib.Math.max.name Lib.Math.max.code 2 (some .int) ∈ gt := gt_in (List.mem_of_getElem? (i := 375) (by decide +kernel)) rfl
theorem kw_376 : Cond.methodLink "TendonLosses$Duct" 75 Lib.Math.min.name ∈ gt := gt_in (List.mem_of_getElem? (i := 376) (by decide +kernel)) rfl
theorem kw_377 : Cond.static Lib.Math.min.name ∈ gt := gt_in (List.mem_of_getElem? (i := 377) (by decide +kernel)) rfl
theorem kw_378 : Cond.code Lib.Math.min.name Lib.Math.min.code 2 (some .int) ∈ gt := gt_in (List.mem_of_getElem? (i := 378) (by decide +kernel)) rfl
theorem kw_379 : Cond.methodLink "TendonLosses$Duct" 78 yD_scaledDistance ∈ gt := gt_in (List.mem_of_getElem? (i := 379) (by decide +kernel)) rfl
theorem kw_380 : Cond.static yD_scaledDistance ∈ gt := gt_in (List.mem_of_getElem? (i := 380) (by decide +kernel)) rfl
theorem kw_381 : Cond.code yD_scaledDistance bD_scaledDistance 5 (some .long) ∈ gt := gt_in (List.mem_of_getElem? (i := 381) (by decide +kernel)) rfl
theorem kw_382 : Cond.methodLink "TendonLosses$Duct" 85 yD_scaledHeight ∈ gt := gt_in (List.mem_of_getElem? (i := 382) (by decide +kernel)) rfl
theorem kw_384 : Cond.instanceMethod yD_scaledHeight ∈ gt := gt_in (List.mem_of_getElem? (i := 384) (by decide +kernel)) rfl
theorem kw_385 : Cond.code yD_scaledHeight bD_scaledHeight 5 (some .long) ∈ gt := gt_in (List.mem_of_getElem? (i := 385) (by decide +kernel)) rfl
theorem kw_386 : Cond.methodLink "TendonLosses$Duct" 82 Lib.MathLoose.abs_long.x ∈ gt := gt_in (List.mem_of_getElem? (i := 386) (by decide +kernel)) rfl
theorem kw_387 : Cond.static Lib.MathLoose.abs_long.x ∈ gt := gt_in (List.mem_of_getElem? (i := 387) (by decide +kernel)) rfl
theorem kw_388 : Cond.code Lib.MathLoose.abs_long.x Lib.MathLoose.abs_long.code 2 (some .long) ∈ gt := gt_in (List.mem_of_getElem? (i := 388) (by decide +kernel)) rfl
theorem kw_389 : Cond.methodLink "TendonLossesLaw" 75 yL_locked ∈ gt := gt_in (List.mem_of_getElem? (i := 389) (by decide +kernel)) rfl
theorem kw_390 : Cond.instanceMethod yL_locked ∈ gt := gt_in (List.mem_of_getElem? (i := 390) (by decide +kernel)) rfl
theorem kw_391 : Cond.selects "TendonLosses" yL_locked yL_locked ∈ gt := gt_in (List.mem_of_getElem? (i := 391) (by decide +kernel)) rfl
theorem kw_392 : Cond.code yL_locked bL_locked 2 (some .int) ∈ gt := gt_in (List.mem_of_getElem? (i := 392) (by decide +kernel)) rfl
theorem kw_393 : Cond.methodLink "TendonLossesLaw" 79 yL_wanted ∈ gt := gt_in (List.mem_of_getElem? (i := 393) (by decide +kernel)) rfl
theorem kw_394 : Cond.instanceMethod yL_wanted ∈ gt := gt_in (List.mem_of_getElem? (i := 394) (by decide +kernel)) rfl
theorem kw_395 : Cond.selects "TendonLosses" yL_wanted yL_wanted ∈ gt := gt_in (List.mem_of_getElem? (i := 395) (by decide +kernel)) rfl
theorem kw_396 : Cond.code yL_wanted bL_wanted 8 (some .int) ∈ gt := gt_in (List.mem_of_getElem? (i := 396) (by decide +kernel)) rfl
theorem kw_397 : Cond.constant "TendonLosses" 156 200000 ∈ gt := gt_in (List.mem_of_getElem? (i := 397) (by decide +kernel)) rfl
theorem kw_398 : Cond.methodLink "TendonLosses" 157 yT_leastForceIfPulled ∈ gt := gt_in (List.mem_of_getElem? (i := 398) (by decide +kernel)) rfl
theorem kw_399 : Cond.instanceMethod yT_leastForceIfPulled ∈ gt := gt_in (List.mem_of_getElem? (i := 399) (by decide +kernel)) rfl
theorem kw_400 : Cond.selects "TendonLosses$Tendon" yT_leastForceIfPulled yT_leastForceIfPulled ∈ gt := gt_in (List.mem_of_getElem? (i := 400) (by decide +kernel)) rfl
theorem kw_401 : Cond.code yT_leastForceIfPulled bT_leastForceIfPulled 7 (some .long) ∈ gt := gt_in (List.mem_of_getElem? (i := 401) (by decide +kernel)) rfl
theorem kw_402 : Cond.methodLink "TendonLosses$Tendon" 45 Lib.MathLoose.min_long.x ∈ gt := gt_in (List.mem_of_getElem? (i := 402) (by decide +kernel)) rfl
theorem kw_403 : Cond.static Lib.MathLoose.min_long.x ∈ gt := gt_in (List.mem_of_getElem? (i := 403) (by decide +kernel)) rfl
theorem kw_404 : Cond.code Lib.MathLoose.min_long.x Lib.MathLoose.min_long.code 4 (some .long) ∈ gt := gt_in (List.mem_of_getElem? (i := 404) (by decide +kernel)) rfl
theorem kw_405 : Cond.methodLink "TendonLossesLaw" 84 yL_count ∈ gt := gt_in (List.mem_of_getElem? (i := 405) (by decide +kernel)) rfl
theorem kw_406 : Cond.instanceMethod yL_count ∈ gt := gt_in (List.mem_of_getElem? (i := 406) (by decide +kernel)) rfl
theorem kw_407 : Cond.selects "TendonLosses" yL_count yL_count ∈ gt := gt_in (List.mem_of_getElem? (i := 407) (by decide +kernel)) rfl
theorem kw_408 : Cond.code yL_count bL_count 2 (some .int) ∈ gt := gt_in (List.mem_of_getElem? (i := 408) (by decide +kernel)) rfl
theorem kw_409 : Cond.methodLink "TendonLosses" 161 yL_countPulled ∈ gt := gt_in (List.mem_of_getElem? (i := 409) (by decide +kernel)) rfl
theorem kw_411 : Cond.instanceMethod yL_countPulled ∈ gt := gt_in (List.mem_of_getElem? (i := 411) (by decide +kernel)) rfl
theorem kw_412 : Cond.code yL_countPulled bL_countPulled 4 (some .int) ∈ gt := gt_in (List.mem_of_getElem? (i := 412) (by decide +kernel)) rfl
theorem kw_413 : Cond.methodLink "TendonLosses" 165 yL_countPoints ∈ gt := gt_in (List.mem_of_getElem? (i := 413) (by decide +kernel)) rfl
theorem kw_415 : Cond.instanceMethod yL_countPoints ∈ gt := gt_in (List.mem_of_getElem? (i := 415) (by decide +kernel)) rfl
theorem kw_416 : Cond.code yL_countPoints bL_countPoints 4 (some .int) ∈ gt := gt_in (List.mem_of_getElem? (i := 416) (by decide +kernel)) rfl
theorem kw_417 : Cond.classLink "TendonLossesLaw" 10 "TendonLossesModel" ∈ gt := gt_in (List.mem_of_getElem? (i := 417) (by decide +kernel)) rfl
theorem kw_418 : Cond.instantiable "TendonLossesModel" 20 ∈ gt := gt_in (List.mem_of_getElem? (i := 418) (by decide +kernel)) rfl
theorem kw_419 : Cond.methodLink "TendonLossesLaw" 12 yM_init ∈ gt := gt_in (List.mem_of_getElem? (i := 419) (by decide +kernel)) rfl
theorem kw_420 : Cond.instanceMethod yM_init ∈ gt := gt_in (List.mem_of_getElem? (i := 420) (by decide +kernel)) rfl
theorem kw_421 : Cond.code yM_init bM_init 1 none ∈ gt := gt_in (List.mem_of_getElem? (i := 421) (by decide +kernel)) rfl
theorem kw_422 : Cond.methodLink "TendonLossesModel" 1 objectInit ∈ gt := gt_in (List.mem_of_getElem? (i := 422) (by decide +kernel)) rfl
theorem kw_423 : Cond.fieldLink "TendonLossesModel" 57 "TendonLossesModel" "tendons" "I" ∈ gt := gt_in (List.mem_of_getElem? (i := 423) (by decide +kernel)) rfl
theorem kw_424 : Cond.fieldLink "TendonLossesModel" 7 "TendonLossesModel" "areas" "[I" ∈ gt := gt_in (List.mem_of_getElem? (i := 424) (by decide +kernel)) rfl
theorem kw_425 : Cond.fieldLink "TendonLossesModel" 13 "TendonLossesModel" "sizes" "[I" ∈ gt := gt_in (List.mem_of_getElem? (i := 425) (by decide +kernel)) rfl
theorem kw_426 : Cond.fieldLink "TendonLossesModel" 16 "TendonLossesModel" "states" "[I" ∈ gt := gt_in (List.mem_of_getElem? (i := 426) (by decide +kernel)) rfl
theorem kw_427 : Cond.fieldLink "TendonLossesModel" 19 "TendonLossesModel" "ends" "[I" ∈ gt := gt_in (List.mem_of_getElem? (i := 427) (by decide +kernel)) rfl
theorem kw_428 : Cond.fieldLink "TendonLossesModel" 22 "TendonLossesModel" "pulls" "[I" ∈ gt := gt_in (List.mem_of_getElem? (i := 428) (by decide +kernel)) rfl
theorem kw_429 : Cond.fieldLink "TendonLossesModel" 25 "TendonLossesModel" "xs" "[I" ∈ gt := gt_in (List.mem_of_getElem? (i := 429) (by decide +kernel)) rfl
theorem kw_430 : Cond.fieldLink "TendonLossesModel" 28 "TendonLossesModel" "ys" "[I" ∈ gt := gt_in (List.mem_of_getElem? (i := 430) (by decide +kernel)) rfl
theorem kw_431 : Cond.fieldLink "TendonLossesModel" 31 "TendonLossesModel" "forces" "[J" ∈ gt := gt_in (List.mem_of_getElem? (i := 431) (by decide +kernel)) rfl
theorem kw_432 : Cond.fieldLink "TendonLossesModel" 35 "TendonLossesModel" "order" "[I" ∈ gt := gt_in (List.mem_of_getElem? (i := 432) (by decide +kernel)) rfl
theorem kw_433 : Cond.fieldLink "TendonLossesModel" 131 "TendonLossesModel" "lockedOnes" "I" ∈ gt := gt_in (List.mem_of_getElem? (i := 433) (by decide +kernel)) rfl
theorem kw_434 : Cond.fieldLink "TendonLossesModel" 38 "TendonLossesModel" "rough" "I" ∈ gt := gt_in (List.mem_of_getElem? (i := 434) (by decide +kernel)) rfl
theorem kw_435 : Cond.fieldLink "TendonLossesModel" 42 "TendonLossesModel" "mu" "I" ∈ gt := gt_in (List.mem_of_getElem? (i := 435) (by decide +kernel)) rfl
theorem kw_436 : Cond.fieldLink "TendonLossesModel" 72 "TendonLossesModel" "slip" "I" ∈ gt := gt_in (List.mem_of_getElem? (i := 436) (by decide +kernel)) rfl
theorem kw_437 : Cond.fieldLink "TendonLossesModel" 45 "TendonLossesModel" "share" "I" ∈ gt := gt_in (List.mem_of_getElem? (i := 437) (by decide +kernel)) rfl
theorem kw_438 : Cond.fieldLink "TendonLossesModel" 48 "TendonLossesModel" "fade" "I" ∈ gt := gt_in (List.mem_of_getElem? (i := 438) (by decide +kernel)) rfl
theorem kw_439 : Cond.fieldLink "TendonLossesModel" 137 "TendonLossesModel" "days" "I" ∈ gt := gt_in (List.mem_of_getElem? (i := 439) (by decide +kernel)) rfl
theorem kw_440 : Cond.fieldLink "TendonLossesModel" 51 "TendonLossesModel" "one" "[J" ∈ gt := gt_in (List.mem_of_getElem? (i := 440) (by decide +kernel)) rfl
theorem kw_441 : Cond.fieldLink "TendonLossesModel" 54 "TendonLossesModel" "two" "[J" ∈ gt := gt_in (List.mem_of_getElem? (i := 441) (by decide +kernel)) rfl
theorem kw_483 : Cond.methodLink "TendonLossesLaw" 17 yM_tendon ∈ gt := gt_in (List.mem_of_getElem? (i := 483) (by decide +kernel)) rfl
theorem kw_484 : Cond.instanceMethod yM_tendon ∈ gt := gt_in (List.mem_of_getElem? (i := 484) (by decide +kernel)) rfl
theorem kw_485 : Cond.selects "TendonLossesModel" yM_tendon yM_tendon ∈ gt := gt_in (List.mem_of_getElem? (i := 485) (by decide +kernel)) rfl
theorem kw_486 : Cond.code yM_tendon bM_tendon 2 (some .int) ∈ gt := gt_in (List.mem_of_getElem? (i := 486) (by decide +kernel)) rfl
theorem kw_487 : Cond.methodLink "TendonLossesModel" 63 yM_in ∈ gt := gt_in (List.mem_of_getElem? (i := 487) (by decide +kernel)) rfl
theorem kw_488 : Cond.static yM_in ∈ gt := gt_in (List.mem_of_getElem? (i := 488) (by decide +kernel)) rfl
theorem kw_489 : Cond.code yM_in bM_in 3 (some .boolean) ∈ gt := gt_in (List.mem_of_getElem? (i := 489) (by decide +kernel)) rfl
theorem kw_490 : Cond.methodLink "TendonLossesLaw" 22 yM_point ∈ gt := gt_in (List.mem_of_getElem? (i := 490) (by decide +kernel)) rfl
theorem kw_491 : Cond.instanceMethod yM_point ∈ gt := gt_in (List.mem_of_getElem? (i := 491) (by decide +kernel)) rfl
theorem kw_492 : Cond.selects "TendonLossesModel" yM_point yM_point ∈ gt := gt_in (List.mem_of_getElem? (i := 492) (by decide +kernel)) rfl
theorem kw_493 : Cond.code yM_point bM_point 5 (some .int) ∈ gt := gt_in (List.mem_of_getElem? (i := 493) (by decide +kernel)) rfl
theorem kw_494 : Cond.methodLink "TendonLossesModel" 67 yM_isTendon ∈ gt := gt_in (List.mem_of_getElem? (i := 494) (by decide +kernel)) rfl
theorem kw_496 : Cond.instanceMethod yM_isTendon ∈ gt := gt_in (List.mem_of_getElem? (i := 496) (by decide +kernel)) rfl
theorem kw_497 : Cond.code yM_isTendon bM_isTendon 2 (some .boolean) ∈ gt := gt_in (List.mem_of_getElem? (i := 497) (by decide +kernel)) rfl
theorem kw_498 : Cond.constant "TendonLossesModel" 71 100000 ∈ gt := gt_in (List.mem_of_getElem? (i := 498) (by decide +kernel)) rfl
theorem kw_499 : Cond.methodLink "TendonLossesLaw" 27 yM_friction ∈ gt := gt_in (List.mem_of_getElem? (i := 499) (by decide +kernel)) rfl
theorem kw_500 : Cond.instanceMethod yM_friction ∈ gt := gt_in (List.mem_of_getElem? (i := 500) (by decide +kernel)) rfl
theorem kw_501 : Cond.selects "TendonLossesModel" yM_friction yM_friction ∈ gt := gt_in (List.mem_of_getElem? (i := 501) (by decide +kernel)) rfl
theorem kw_502 : Cond.code yM_friction bM_friction 3 (some .boolean) ∈ gt := gt_in (List.mem_of_getElem? (i := 502) (by decide +kernel)) rfl
theorem kw_503 : Cond.methodLink "TendonLossesLaw" 32 yM_losses ∈ gt := gt_in (List.mem_of_getElem? (i := 503) (by decide +kernel)) rfl
theorem kw_504 : Cond.instanceMethod yM_losses ∈ gt := gt_in (List.mem_of_getElem? (i := 504) (by decide +kernel)) rfl
theorem kw_505 : Cond.selects "TendonLossesModel" yM_losses yM_losses ∈ gt := gt_in (List.mem_of_getElem? (i := 505) (by decide +kernel)) rfl
theorem kw_506 : Cond.code yM_losses bM_losses 4 (some .boolean) ∈ gt := gt_in (List.mem_of_getElem? (i := 506) (by decide +kernel)) rfl
theorem kw_507 : Cond.methodLink "TendonLossesLaw" 36 yM_pull ∈ gt := gt_in (List.mem_of_getElem? (i := 507) (by decide +kernel)) rfl
theorem kw_508 : Cond.instanceMethod yM_pull ∈ gt := gt_in (List.mem_of_getElem? (i := 508) (by decide +kernel)) rfl
theorem kw_509 : Cond.selects "TendonLossesModel" yM_pull yM_pull ∈ gt := gt_in (List.mem_of_getElem? (i := 509) (by decide +kernel)) rfl
theorem kw_510 : Cond.code yM_pull bM_pull 5 (some .int) ∈ gt := gt_in (List.mem_of_getElem? (i := 510) (by decide +kernel)) rfl
theorem kw_511 : Cond.constant "TendonLossesModel" 114 10000000 ∈ gt := gt_in (List.mem_of_getElem? (i := 511) (by decide +kernel)) rfl
theorem kw_512 : Cond.methodLink "TendonLossesModel" 115 yM_drawAll ∈ gt := gt_in (List.mem_of_getElem? (i := 512) (by decide +kernel)) rfl
theorem kw_514 : Cond.instanceMethod yM_drawAll ∈ gt := gt_in (List.mem_of_getElem? (i := 514) (by decide +kernel)) rfl
theorem kw_515 : Cond.code yM_drawAll bM_drawAll 6 none ∈ gt := gt_in (List.mem_of_getElem? (i := 515) (by decide +kernel)) rfl
theorem kw_516 : Cond.methodLink "TendonLossesModel" 106 yM_draw ∈ gt := gt_in (List.mem_of_getElem? (i := 516) (by decide +kernel)) rfl
theorem kw_518 : Cond.instanceMethod yM_draw ∈ gt := gt_in (List.mem_of_getElem? (i := 518) (by decide +kernel)) rfl
theorem kw_519 : Cond.code yM_draw bM_draw 13 none ∈ gt := gt_in (List.mem_of_getElem? (i := 519) (by decide +kernel)) rfl
theorem kw_520 : Cond.methodLink "TendonLossesModel" 91 yM_lengthOf ∈ gt := gt_in (List.mem_of_getElem? (i := 520) (by decide +kernel)) rfl
theorem kw_522 : Cond.instanceMethod yM_lengthOf ∈ gt := gt_in (List.mem_of_getElem? (i := 522) (by decide +kernel)) rfl
theorem kw_523 : Cond.code yM_lengthOf bM_lengthOf 7 (some .long) ∈ gt := gt_in (List.mem_of_getElem? (i := 523) (by decide +kernel)) rfl
theorem kw_524 : Cond.methodLink "TendonLossesModel" 79 yM_root ∈ gt := gt_in (List.mem_of_getElem? (i := 524) (by decide +kernel)) rfl
theorem kw_525 : Cond.static yM_root ∈ gt := gt_in (List.mem_of_getElem? (i := 525) (by decide +kernel)) rfl
theorem kw_526 : Cond.code yM_root bM_root 8 (some .long) ∈ gt := gt_in (List.mem_of_getElem? (i := 526) (by decide +kernel)) rfl
theorem kw_527 : Cond.constantLong "TendonLossesModel" 75 200000 ∈ gt := gt_in (List.mem_of_getElem? (i := 527) (by decide +kernel)) rfl
theorem kw_528 : Cond.constantLong "TendonLossesModel" 77 2 ∈ gt := gt_in (List.mem_of_getElem? (i := 528) (by decide +kernel)) rfl
theorem kw_529 : Cond.methodLink "TendonLossesModel" 95 yM_byRough ∈ gt := gt_in (List.mem_of_getElem? (i := 529) (by decide +kernel)) rfl
theorem kw_531 : Cond.instanceMethod yM_byRough ∈ gt := gt_in (List.mem_of_getElem? (i := 531) (by decide +kernel)) rfl
theorem kw_532 : Cond.code yM_byRough bM_byRough 5 (some .long) ∈ gt := gt_in (List.mem_of_getElem? (i := 532) (by decide +kernel)) rfl
theorem kw_533 : Cond.constantLong "TendonLossesModel" 87 1000000000 ∈ gt := gt_in (List.mem_of_getElem? (i := 533) (by decide +kernel)) rfl
theorem kw_534 : Cond.methodLink "TendonLossesModel" 99 yM_turnOf ∈ gt := gt_in (List.mem_of_getElem? (i := 534) (by decide +kernel)) rfl
theorem kw_536 : Cond.instanceMethod yM_turnOf ∈ gt := gt_in (List.mem_of_getElem? (i := 536) (by decide +kernel)) rfl
theorem kw_537 : Cond.code yM_turnOf bM_turnOf 4 (some .int) ∈ gt := gt_in (List.mem_of_getElem? (i := 537) (by decide +kernel)) rfl
theorem kw_538 : Cond.methodLink "TendonLossesModel" 83 yM_slopeOf ∈ gt := gt_in (List.mem_of_getElem? (i := 538) (by decide +kernel)) rfl
theorem kw_540 : Cond.instanceMethod yM_slopeOf ∈ gt := gt_in (List.mem_of_getElem? (i := 540) (by decide +kernel)) rfl
theorem kw_541 : Cond.code yM_slopeOf bM_slopeOf 5 (some .int) ∈ gt := gt_in (List.mem_of_getElem? (i := 541) (by decide +kernel)) rfl
theorem kw_542 : Cond.methodLink "TendonLossesModel" 102 yM_byTurn ∈ gt := gt_in (List.mem_of_getElem? (i := 542) (by decide +kernel)) rfl
theorem kw_544 : Cond.instanceMethod yM_byTurn ∈ gt := gt_in (List.mem_of_getElem? (i := 544) (by decide +kernel)) rfl
theorem kw_545 : Cond.code yM_byTurn bM_byTurn 4 (some .long) ∈ gt := gt_in (List.mem_of_getElem? (i := 545) (by decide +kernel)) rfl
theorem kw_546 : Cond.constantLong "TendonLossesModel" 89 1000000 ∈ gt := gt_in (List.mem_of_getElem? (i := 546) (by decide +kernel)) rfl
theorem kw_547 : Cond.methodLink "TendonLossesModel" 119 yM_longerOf ∈ gt := gt_in (List.mem_of_getElem? (i := 547) (by decide +kernel)) rfl
theorem kw_549 : Cond.instanceMethod yM_longerOf ∈ gt := gt_in (List.mem_of_getElem? (i := 549) (by decide +kernel)) rfl
theorem kw_550 : Cond.code yM_longerOf bM_longerOf 7 (some .int) ∈ gt := gt_in (List.mem_of_getElem? (i := 550) (by decide +kernel)) rfl
theorem kw_551 : Cond.constantLong "TendonLossesModel" 110 1000 ∈ gt := gt_in (List.mem_of_getElem? (i := 551) (by decide +kernel)) rfl
theorem kw_552 : Cond.constantLong "TendonLossesModel" 112 195000 ∈ gt := gt_in (List.mem_of_getElem? (i := 552) (by decide +kernel)) rfl
theorem kw_553 : Cond.methodLink "TendonLossesLaw" 40 yM_lock ∈ gt := gt_in (List.mem_of_getElem? (i := 553) (by decide +kernel)) rfl
theorem kw_554 : Cond.instanceMethod yM_lock ∈ gt := gt_in (List.mem_of_getElem? (i := 554) (by decide +kernel)) rfl
theorem kw_555 : Cond.selects "TendonLossesModel" yM_lock yM_lock ∈ gt := gt_in (List.mem_of_getElem? (i := 555) (by decide +kernel)) rfl
theorem kw_556 : Cond.code yM_lock bM_lock 10 (some .int) ∈ gt := gt_in (List.mem_of_getElem? (i := 556) (by decide +kernel)) rfl
theorem kw_557 : Cond.methodLink "TendonLossesModel" 127 yM_letSlip ∈ gt := gt_in (List.mem_of_getElem? (i := 557) (by decide +kernel)) rfl
theorem kw_559 : Cond.instanceMethod yM_letSlip ∈ gt := gt_in (List.mem_of_getElem? (i := 559) (by decide +kernel)) rfl
theorem kw_560 : Cond.code yM_letSlip bM_letSlip 10 none ∈ gt := gt_in (List.mem_of_getElem? (i := 560) (by decide +kernel)) rfl
theorem kw_561 : Cond.methodLink "TendonLossesModel" 123 yM_tryOut ∈ gt := gt_in (List.mem_of_getElem? (i := 561) (by decide +kernel)) rfl
theorem kw_563 : Cond.instanceMethod yM_tryOut ∈ gt := gt_in (List.mem_of_getElem? (i := 563) (by decide +kernel)) rfl
theorem kw_564 : Cond.code yM_tryOut bM_tryOut 14 (some .long) ∈ gt := gt_in (List.mem_of_getElem? (i := 564) (by decide +kernel)) rfl
theorem kw_565 : Cond.methodLink "TendonLossesLaw" 45 yM_cut ∈ gt := gt_in (List.mem_of_getElem? (i := 565) (by decide +kernel)) rfl
theorem kw_566 : Cond.instanceMethod yM_cut ∈ gt := gt_in (List.mem_of_getElem? (i := 566) (by decide +kernel)) rfl
theorem kw_567 : Cond.selects "TendonLossesModel" yM_cut yM_cut ∈ gt := gt_in (List.mem_of_getElem? (i := 567) (by decide +kernel)) rfl
theorem kw_568 : Cond.code yM_cut bM_cut 4 (some .boolean) ∈ gt := gt_in (List.mem_of_getElem? (i := 568) (by decide +kernel)) rfl
theorem kw_569 : Cond.methodLink "TendonLossesModel" 134 yM_hasForces ∈ gt := gt_in (List.mem_of_getElem? (i := 569) (by decide +kernel)) rfl
theorem kw_571 : Cond.instanceMethod yM_hasForces ∈ gt := gt_in (List.mem_of_getElem? (i := 571) (by decide +kernel)) rfl
theorem kw_572 : Cond.code yM_hasForces bM_hasForces 2 (some .boolean) ∈ gt := gt_in (List.mem_of_getElem? (i := 572) (by decide +kernel)) rfl
theorem kw_573 : Cond.methodLink "TendonLossesLaw" 49 yM_days ∈ gt := gt_in (List.mem_of_getElem? (i := 573) (by decide +kernel)) rfl
theorem kw_574 : Cond.instanceMethod yM_days ∈ gt := gt_in (List.mem_of_getElem? (i := 574) (by decide +kernel)) rfl
theorem kw_575 : Cond.selects "TendonLossesModel" yM_days yM_days ∈ gt := gt_in (List.mem_of_getElem? (i := 575) (by decide +kernel)) rfl
theorem kw_576 : Cond.code yM_days bM_days 6 (some .int) ∈ gt := gt_in (List.mem_of_getElem? (i := 576) (by decide +kernel)) rfl
theorem kw_577 : Cond.methodLink "TendonLossesLaw" 54 yM_force ∈ gt := gt_in (List.mem_of_getElem? (i := 577) (by decide +kernel)) rfl
theorem kw_578 : Cond.instanceMethod yM_force ∈ gt := gt_in (List.mem_of_getElem? (i := 578) (by decide +kernel)) rfl
theorem kw_579 : Cond.selects "TendonLossesModel" yM_force yM_force ∈ gt := gt_in (List.mem_of_getElem? (i := 579) (by decide +kernel)) rfl
theorem kw_580 : Cond.code yM_force bM_force 3 (some .int) ∈ gt := gt_in (List.mem_of_getElem? (i := 580) (by decide +kernel)) rfl
theorem kw_581 : Cond.methodLink "TendonLossesLaw" 58 yM_at ∈ gt := gt_in (List.mem_of_getElem? (i := 581) (by decide +kernel)) rfl
theorem kw_582 : Cond.instanceMethod yM_at ∈ gt := gt_in (List.mem_of_getElem? (i := 582) (by decide +kernel)) rfl
theorem kw_583 : Cond.selects "TendonLossesModel" yM_at yM_at ∈ gt := gt_in (List.mem_of_getElem? (i := 583) (by decide +kernel)) rfl
theorem kw_584 : Cond.code yM_at bM_at 5 (some .int) ∈ gt := gt_in (List.mem_of_getElem? (i := 584) (by decide +kernel)) rfl
theorem kw_585 : Cond.methodLink "TendonLossesLaw" 62 yM_longer ∈ gt := gt_in (List.mem_of_getElem? (i := 585) (by decide +kernel)) rfl
theorem kw_586 : Cond.instanceMethod yM_longer ∈ gt := gt_in (List.mem_of_getElem? (i := 586) (by decide +kernel)) rfl
theorem kw_587 : Cond.selects "TendonLossesModel" yM_longer yM_longer ∈ gt := gt_in (List.mem_of_getElem? (i := 587) (by decide +kernel)) rfl
theorem kw_588 : Cond.code yM_longer bM_longer 2 (some .int) ∈ gt := gt_in (List.mem_of_getElem? (i := 588) (by decide +kernel)) rfl
theorem kw_589 : Cond.methodLink "TendonLossesLaw" 66 yM_piece ∈ gt := gt_in (List.mem_of_getElem? (i := 589) (by decide +kernel)) rfl
theorem kw_590 : Cond.instanceMethod yM_piece ∈ gt := gt_in (List.mem_of_getElem? (i := 590) (by decide +kernel)) rfl
theorem kw_591 : Cond.selects "TendonLossesModel" yM_piece yM_piece ∈ gt := gt_in (List.mem_of_getElem? (i := 591) (by decide +kernel)) rfl
theorem kw_592 : Cond.code yM_piece bM_piece 4 (some .int) ∈ gt := gt_in (List.mem_of_getElem? (i := 592) (by decide +kernel)) rfl
theorem kw_593 : Cond.methodLink "TendonLossesLaw" 70 yM_presses ∈ gt := gt_in (List.mem_of_getElem? (i := 593) (by decide +kernel)) rfl
theorem kw_594 : Cond.instanceMethod yM_presses ∈ gt := gt_in (List.mem_of_getElem? (i := 594) (by decide +kernel)) rfl
theorem kw_595 : Cond.selects "TendonLossesModel" yM_presses yM_presses ∈ gt := gt_in (List.mem_of_getElem? (i := 595) (by decide +kernel)) rfl
theorem kw_596 : Cond.code yM_presses bM_presses 5 (some .int) ∈ gt := gt_in (List.mem_of_getElem? (i := 596) (by decide +kernel)) rfl
theorem kw_597 : Cond.constant "TendonLossesModel" 140 (-2000000000) ∈ gt := gt_in (List.mem_of_getElem? (i := 597) (by decide +kernel)) rfl
theorem kw_598 : Cond.methodLink "TendonLossesLaw" 74 yM_clash ∈ gt := gt_in (List.mem_of_getElem? (i := 598) (by decide +kernel)) rfl
theorem kw_599 : Cond.instanceMethod yM_clash ∈ gt := gt_in (List.mem_of_getElem? (i := 599) (by decide +kernel)) rfl
theorem kw_600 : Cond.selects "TendonLossesModel" yM_clash yM_clash ∈ gt := gt_in (List.mem_of_getElem? (i := 600) (by decide +kernel)) rfl
theorem kw_601 : Cond.code yM_clash bM_clash 16 (some .boolean) ∈ gt := gt_in (List.mem_of_getElem? (i := 601) (by decide +kernel)) rfl
theorem kw_602 : Cond.methodLink "TendonLossesModel" 144 yM_apart ∈ gt := gt_in (List.mem_of_getElem? (i := 602) (by decide +kernel)) rfl
theorem kw_604 : Cond.instanceMethod yM_apart ∈ gt := gt_in (List.mem_of_getElem? (i := 604) (by decide +kernel)) rfl
theorem kw_605 : Cond.code yM_apart bM_apart 14 (some .long) ∈ gt := gt_in (List.mem_of_getElem? (i := 605) (by decide +kernel)) rfl
theorem kw_606 : Cond.methodLink "TendonLossesModel" 141 yM_pieceAt ∈ gt := gt_in (List.mem_of_getElem? (i := 606) (by decide +kernel)) rfl
theorem kw_608 : Cond.instanceMethod yM_pieceAt ∈ gt := gt_in (List.mem_of_getElem? (i := 608) (by decide +kernel)) rfl
theorem kw_609 : Cond.code yM_pieceAt bM_pieceAt 4 (some .int) ∈ gt := gt_in (List.mem_of_getElem? (i := 609) (by decide +kernel)) rfl
theorem kw_610 : Cond.methodLink "TendonLossesModel" 148 yM_unit ∈ gt := gt_in (List.mem_of_getElem? (i := 610) (by decide +kernel)) rfl
theorem kw_612 : Cond.instanceMethod yM_unit ∈ gt := gt_in (List.mem_of_getElem? (i := 612) (by decide +kernel)) rfl
theorem kw_613 : Cond.code yM_unit bM_unit 6 (some .long) ∈ gt := gt_in (List.mem_of_getElem? (i := 613) (by decide +kernel)) rfl
theorem kw_614 : Cond.methodLink "TendonLossesLaw" 78 yM_locked ∈ gt := gt_in (List.mem_of_getElem? (i := 614) (by decide +kernel)) rfl
theorem kw_615 : Cond.instanceMethod yM_locked ∈ gt := gt_in (List.mem_of_getElem? (i := 615) (by decide +kernel)) rfl
theorem kw_616 : Cond.selects "TendonLossesModel" yM_locked yM_locked ∈ gt := gt_in (List.mem_of_getElem? (i := 616) (by decide +kernel)) rfl
theorem kw_617 : Cond.code yM_locked bM_locked 2 (some .int) ∈ gt := gt_in (List.mem_of_getElem? (i := 617) (by decide +kernel)) rfl
theorem kw_618 : Cond.methodLink "TendonLossesLaw" 83 yM_wanted ∈ gt := gt_in (List.mem_of_getElem? (i := 618) (by decide +kernel)) rfl
theorem kw_619 : Cond.instanceMethod yM_wanted ∈ gt := gt_in (List.mem_of_getElem? (i := 619) (by decide +kernel)) rfl
theorem kw_620 : Cond.selects "TendonLossesModel" yM_wanted yM_wanted ∈ gt := gt_in (List.mem_of_getElem? (i := 620) (by decide +kernel)) rfl
theorem kw_621 : Cond.code yM_wanted bM_wanted 9 (some .int) ∈ gt := gt_in (List.mem_of_getElem? (i := 621) (by decide +kernel)) rfl
theorem kw_622 : Cond.constant "TendonLossesModel" 151 200000 ∈ gt := gt_in (List.mem_of_getElem? (i := 622) (by decide +kernel)) rfl
theorem kw_623 : Cond.methodLink "TendonLossesLaw" 87 yM_count ∈ gt := gt_in (List.mem_of_getElem? (i := 623) (by decide +kernel)) rfl
theorem kw_624 : Cond.instanceMethod yM_count ∈ gt := gt_in (List.mem_of_getElem? (i := 624) (by decide +kernel)) rfl
theorem kw_625 : Cond.selects "TendonLossesModel" yM_count yM_count ∈ gt := gt_in (List.mem_of_getElem? (i := 625) (by decide +kernel)) rfl
theorem kw_626 : Cond.code yM_count bM_count 5 (some .int) ∈ gt := gt_in (List.mem_of_getElem? (i := 626) (by decide +kernel)) rfl
