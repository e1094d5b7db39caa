/-! words of the table, by their places; how many arguments a method takes -/
theorem kw_0 : Cond.selects RQ_S y_S_isBarThere y_S_isBarThere ∈ gt_ws := gt_of 0 (by decide +kernel) (by decide +kernel)
theorem kw_1 : Cond.selects RQ_T y_T_isGood y_T_isGood ∈ gt_ws := gt_of 1 (by decide +kernel) (by decide +kernel)
theorem kw_2 : Cond.selects RQ_T y_T_reach y_T_reach ∈ gt_ws := gt_of 2 (by decide +kernel) (by decide +kernel)
theorem kw_3 : Cond.selects RQ_N y_N_findNeighbours y_N_findNeighbours ∈ gt_ws := gt_of 3 (by decide +kernel) (by decide +kernel)
theorem kw_4 : Cond.selects RQ_N y_N_placeNodes y_N_placeNodes ∈ gt_ws := gt_of 4 (by decide +kernel) (by decide +kernel)
theorem kw_5 : Cond.selects RQ_N y_N_leastJoined y_N_leastJoined ∈ gt_ws := gt_of 5 (by decide +kernel) (by decide +kernel)
theorem kw_6 : Cond.selects RQ_N y_N_append y_N_append ∈ gt_ws := gt_of 6 (by decide +kernel) (by decide +kernel)
theorem kw_7 : Cond.selects RQ_N y_N_appendNeighboursOf y_N_appendNeighboursOf ∈ gt_ws := gt_of 7 (by decide +kernel) (by decide +kernel)
theorem kw_8 : Cond.selects RQ_N y_N_turnRound y_N_turnRound ∈ gt_ws := gt_of 8 (by decide +kernel) (by decide +kernel)
theorem kw_9 : Cond.selects RQ_N y_N_numberSlots y_N_numberSlots ∈ gt_ws := gt_of 9 (by decide +kernel) (by decide +kernel)
theorem kw_10 : Cond.selects RQ_N y_N_numberSlot y_N_numberSlot ∈ gt_ws := gt_of 10 (by decide +kernel) (by decide +kernel)
theorem kw_11 : Cond.selects RQ_E y_E_sumUpStiffness y_E_sumUpStiffness ∈ gt_ws := gt_of 11 (by decide +kernel) (by decide +kernel)
theorem kw_12 : Cond.selects RQ_E y_E_addStiffnessOfBar y_E_addStiffnessOfBar ∈ gt_ws := gt_of 12 (by decide +kernel) (by decide +kernel)
theorem kw_13 : Cond.selects RQ_E y_E_growPolynomial y_E_growPolynomial ∈ gt_ws := gt_of 13 (by decide +kernel) (by decide +kernel)
theorem kw_14 : Cond.selects RQ_E y_E_findGrowth y_E_findGrowth ∈ gt_ws := gt_of 14 (by decide +kernel) (by decide +kernel)
theorem kw_15 : Cond.selects RQ_E y_E_rowTimes y_E_rowTimes ∈ gt_ws := gt_of 15 (by decide +kernel) (by decide +kernel)
theorem kw_16 : Cond.selects RQ_E y_E_multiply y_E_multiply ∈ gt_ws := gt_of 16 (by decide +kernel) (by decide +kernel)
theorem kw_17 : Cond.selects RQ_S y_S_isAnswerable y_S_isAnswerable ∈ gt_ws := gt_of 17 (by decide +kernel) (by decide +kernel)
theorem kw_18 : Cond.selects RQ_S y_S_isNodeThere y_S_isNodeThere ∈ gt_ws := gt_of 18 (by decide +kernel) (by decide +kernel)
theorem kw_19 : Cond.selects RQ_R y_R_sumUpLoads y_R_sumUpLoads ∈ gt_ws := gt_of 19 (by decide +kernel) (by decide +kernel)
theorem kw_20 : Cond.selects RQ_R y_R_moveHeldSlots y_R_moveHeldSlots ∈ gt_ws := gt_of 20 (by decide +kernel) (by decide +kernel)
theorem kw_21 : Cond.selects RQ_R y_R_heldDisplacement y_R_heldDisplacement ∈ gt_ws := gt_of 21 (by decide +kernel) (by decide +kernel)
theorem kw_22 : Cond.selects RQ_R y_R_findRightSide y_R_findRightSide ∈ gt_ws := gt_of 22 (by decide +kernel) (by decide +kernel)
theorem kw_23 : Cond.selects RQ_S y_S_partOfFraction y_S_partOfFraction ∈ gt_ws := gt_of 23 (by decide +kernel) (by decide +kernel)
theorem kw_24 : Cond.selects RQ_M y_M_off y_M_off ∈ gt_ws := gt_of 24 (by decide +kernel) (by decide +kernel)
theorem kw_25 : Cond.selects RQ_M y_M_makeOrder y_M_makeOrder ∈ gt_ws := gt_of 25 (by decide +kernel) (by decide +kernel)
theorem kw_26 : Cond.selects RQ_M y_M_candidate y_M_candidate ∈ gt_ws := gt_of 26 (by decide +kernel) (by decide +kernel)
theorem kw_27 : Cond.selects RQ_M y_M_inOrder y_M_inOrder ∈ gt_ws := gt_of 27 (by decide +kernel) (by decide +kernel)
theorem kw_28 : Cond.selects RQ_M y_M_joined y_M_joined ∈ gt_ws := gt_of 28 (by decide +kernel) (by decide +kernel)
theorem kw_29 : Cond.selects RQ_M y_M_neighbours y_M_neighbours ∈ gt_ws := gt_of 29 (by decide +kernel) (by decide +kernel)
theorem kw_30 : Cond.selects RQ_M y_M_append y_M_append ∈ gt_ws := gt_of 30 (by decide +kernel) (by decide +kernel)
theorem kw_31 : Cond.selects RQ_M y_M_good y_M_good ∈ gt_ws := gt_of 31 (by decide +kernel) (by decide +kernel)
theorem kw_32 : Cond.selects RQ_M y_M_makeMatrix y_M_makeMatrix ∈ gt_ws := gt_of 32 (by decide +kernel) (by decide +kernel)
theorem kw_33 : Cond.selects RQ_M y_M_way y_M_way ∈ gt_ws := gt_of 33 (by decide +kernel) (by decide +kernel)
theorem kw_34 : Cond.selects RQ_M y_M_sign y_M_sign ∈ gt_ws := gt_of 34 (by decide +kernel) (by decide +kernel)
theorem kw_35 : Cond.selects RQ_M y_M_det y_M_det ∈ gt_ws := gt_of 35 (by decide +kernel) (by decide +kernel)
theorem kw_36 : Cond.selects RQ_M y_M_modulo y_M_modulo ∈ gt_ws := gt_of 36 (by decide +kernel) (by decide +kernel)
theorem kw_37 : Cond.selects RQ_M y_M_exchange y_M_exchange ∈ gt_ws := gt_of 37 (by decide +kernel) (by decide +kernel)
theorem kw_38 : Cond.selects RQ_M y_M_clear y_M_clear ∈ gt_ws := gt_of 38 (by decide +kernel) (by decide +kernel)
theorem kw_39 : Cond.selects RQ_M y_M_powered y_M_powered ∈ gt_ws := gt_of 39 (by decide +kernel) (by decide +kernel)
theorem kw_40 : Cond.selects RQ_M y_M_moved y_M_moved ∈ gt_ws := gt_of 40 (by decide +kernel) (by decide +kernel)
theorem kw_41 : Cond.selects RQ_M y_M_loadOf y_M_loadOf ∈ gt_ws := gt_of 41 (by decide +kernel) (by decide +kernel)
theorem kw_42 : Cond.selects RQ_M y_M_fixedOf y_M_fixedOf ∈ gt_ws := gt_of 42 (by decide +kernel) (by decide +kernel)
theorem kw_43 : Cond.selects RQ_M y_M_fraction y_M_fraction ∈ gt_ws := gt_of 43 (by decide +kernel) (by decide +kernel)
theorem kw_44 : Cond.selects RQ_M y_M_pull y_M_pull ∈ gt_ws := gt_of 44 (by decide +kernel) (by decide +kernel)
theorem kw_45 : Cond.selects RQ_M y_M_profile y_M_profile ∈ gt_ws := gt_of 45 (by decide +kernel) (by decide +kernel)
theorem kw_47 : Cond.initialized RQ_S ∈ gt_ws := gt_of 47 (by decide +kernel) (by decide +kernel)
theorem kw_48 : Cond.initialized RQ_T ∈ gt_ws := gt_of 48 (by decide +kernel) (by decide +kernel)
theorem kw_49 : Cond.initialized RQ_N ∈ gt_ws := gt_of 49 (by decide +kernel) (by decide +kernel)
theorem kw_50 : Cond.initialized RQ_E ∈ gt_ws := gt_of 50 (by decide +kernel) (by decide +kernel)
theorem kw_51 : Cond.initialized RQ_R ∈ gt_ws := gt_of 51 (by decide +kernel) (by decide +kernel)
theorem kw_52 : Cond.initialized RQ_M ∈ gt_ws := gt_of 52 (by decide +kernel) (by decide +kernel)
theorem kw_53 : Cond.initialized RQ_JI ∈ gt_ws := gt_of 53 (by decide +kernel) (by decide +kernel)
theorem kw_54 : Cond.initialized RQ_JM ∈ gt_ws := gt_of 54 (by decide +kernel) (by decide +kernel)
theorem kw_55 : Cond.initialized RQ_JA ∈ gt_ws := gt_of 55 (by decide +kernel) (by decide +kernel)
theorem kw_56 : Cond.initialized RQ_JS ∈ gt_ws := gt_of 56 (by decide +kernel) (by decide +kernel)
theorem kw_73 : Cond.fieldLink RQ_T 9 "TrussSolver$Truss" "there" "I" ∈ gt_ws := gt_of 73 (by decide +kernel) (by decide +kernel)
theorem kw_74 : Cond.fieldLink RQ_N 68 "TrussSolver$Truss" "there" "I" ∈ gt_ws := gt_of 74 (by decide +kernel) (by decide +kernel)
theorem kw_75 : Cond.fieldLink RQ_T 15 "TrussSolver$Truss" "points" "[I" ∈ gt_ws := gt_of 75 (by decide +kernel) (by decide +kernel)
theorem kw_76 : Cond.fieldLink RQ_T 19 "TrussSolver$Truss" "firstNodes" "[I" ∈ gt_ws := gt_of 76 (by decide +kernel) (by decide +kernel)
theorem kw_77 : Cond.fieldLink RQ_N 58 "TrussSolver$Truss" "firstNodes" "[I" ∈ gt_ws := gt_of 77 (by decide +kernel) (by decide +kernel)
theorem kw_78 : Cond.fieldLink RQ_T 22 "TrussSolver$Truss" "secondNodes" "[I" ∈ gt_ws := gt_of 78 (by decide +kernel) (by decide +kernel)
theorem kw_79 : Cond.fieldLink RQ_N 61 "TrussSolver$Truss" "secondNodes" "[I" ∈ gt_ws := gt_of 79 (by decide +kernel) (by decide +kernel)
theorem kw_80 : Cond.fieldLink RQ_T 25 "TrussSolver$Truss" "stiffnesses" "[I" ∈ gt_ws := gt_of 80 (by decide +kernel) (by decide +kernel)
theorem kw_81 : Cond.fieldLink RQ_E 67 "TrussSolver$Truss" "stiffnesses" "[I" ∈ gt_ws := gt_of 81 (by decide +kernel) (by decide +kernel)
theorem kw_82 : Cond.fieldLink RQ_R 86 "TrussSolver$Truss" "stiffnesses" "[I" ∈ gt_ws := gt_of 82 (by decide +kernel) (by decide +kernel)
theorem kw_83 : Cond.fieldLink RQ_T 28 "TrussSolver$Truss" "barCount" "I" ∈ gt_ws := gt_of 83 (by decide +kernel) (by decide +kernel)
theorem kw_84 : Cond.fieldLink RQ_N 53 "TrussSolver$Truss" "barCount" "I" ∈ gt_ws := gt_of 84 (by decide +kernel) (by decide +kernel)
theorem kw_85 : Cond.fieldLink RQ_E 60 "TrussSolver$Truss" "barCount" "I" ∈ gt_ws := gt_of 85 (by decide +kernel) (by decide +kernel)
theorem kw_86 : Cond.fieldLink RQ_S 56 "TrussSolver$Truss" "barCount" "I" ∈ gt_ws := gt_of 86 (by decide +kernel) (by decide +kernel)
theorem kw_88 : Cond.fieldLink RQ_S 78 "TrussSolver$Truss" "held" "[Z" ∈ gt_ws := gt_of 88 (by decide +kernel) (by decide +kernel)
theorem kw_89 : Cond.fieldLink RQ_R 67 "TrussSolver$Truss" "held" "[Z" ∈ gt_ws := gt_of 89 (by decide +kernel) (by decide +kernel)
theorem kw_90 : Cond.fieldLink RQ_N 95 "TrussSolver$Truss" "held" "[Z" ∈ gt_ws := gt_of 90 (by decide +kernel) (by decide +kernel)
theorem kw_92 : Cond.fieldLink RQ_S 82 "TrussSolver$Truss" "heldAt" "[I" ∈ gt_ws := gt_of 92 (by decide +kernel) (by decide +kernel)
theorem kw_93 : Cond.fieldLink RQ_R 75 "TrussSolver$Truss" "heldAt" "[I" ∈ gt_ws := gt_of 93 (by decide +kernel) (by decide +kernel)
theorem kw_95 : Cond.fieldLink RQ_E 55 "TrussSolver$Truss" "springs" "[I" ∈ gt_ws := gt_of 95 (by decide +kernel) (by decide +kernel)
theorem kw_96 : Cond.fieldLink RQ_S 86 "TrussSolver$Truss" "springs" "[I" ∈ gt_ws := gt_of 96 (by decide +kernel) (by decide +kernel)
theorem kw_98 : Cond.fieldLink RQ_R 62 "TrussSolver$Truss" "loads" "[[I" ∈ gt_ws := gt_of 98 (by decide +kernel) (by decide +kernel)
theorem kw_99 : Cond.fieldLink RQ_S 92 "TrussSolver$Truss" "loads" "[[I" ∈ gt_ws := gt_of 99 (by decide +kernel) (by decide +kernel)
theorem kw_129 : Cond.fieldLink RQ_N 9 "TrussSolver$Numbering" "nodes" "[I" ∈ gt_ws := gt_of 129 (by decide +kernel) (by decide +kernel)
theorem kw_130 : Cond.fieldLink RQ_S 157 "TrussSolver$Numbering" "nodes" "[I" ∈ gt_ws := gt_of 130 (by decide +kernel) (by decide +kernel)
theorem kw_131 : Cond.fieldLink RQ_N 15 "TrussSolver$Numbering" "placed" "I" ∈ gt_ws := gt_of 131 (by decide +kernel) (by decide +kernel)
theorem kw_132 : Cond.fieldLink RQ_S 154 "TrussSolver$Numbering" "placed" "I" ∈ gt_ws := gt_of 132 (by decide +kernel) (by decide +kernel)
theorem kw_133 : Cond.fieldLink RQ_N 19 "TrussSolver$Numbering" "taken" "I" ∈ gt_ws := gt_of 133 (by decide +kernel) (by decide +kernel)
theorem kw_134 : Cond.fieldLink RQ_N 22 "TrussSolver$Numbering" "neighbours" "[I" ∈ gt_ws := gt_of 134 (by decide +kernel) (by decide +kernel)
theorem kw_135 : Cond.fieldLink RQ_N 25 "TrussSolver$Numbering" "unknownAt" "[I" ∈ gt_ws := gt_of 135 (by decide +kernel) (by decide +kernel)
theorem kw_136 : Cond.fieldLink RQ_S 163 "TrussSolver$Numbering" "unknownAt" "[I" ∈ gt_ws := gt_of 136 (by decide +kernel) (by decide +kernel)
theorem kw_137 : Cond.fieldLink RQ_N 28 "TrussSolver$Numbering" "slotOfUnknown" "[I" ∈ gt_ws := gt_of 137 (by decide +kernel) (by decide +kernel)
theorem kw_138 : Cond.fieldLink RQ_E 45 "TrussSolver$Numbering" "slotOfUnknown" "[I" ∈ gt_ws := gt_of 138 (by decide +kernel) (by decide +kernel)
theorem kw_139 : Cond.fieldLink RQ_R 59 "TrussSolver$Numbering" "slotOfUnknown" "[I" ∈ gt_ws := gt_of 139 (by decide +kernel) (by decide +kernel)
theorem kw_140 : Cond.fieldLink RQ_N 31 "TrussSolver$Numbering" "unknowns" "I" ∈ gt_ws := gt_of 140 (by decide +kernel) (by decide +kernel)
theorem kw_141 : Cond.fieldLink RQ_E 40 "TrussSolver$Numbering" "unknowns" "I" ∈ gt_ws := gt_of 141 (by decide +kernel) (by decide +kernel)
theorem kw_142 : Cond.fieldLink RQ_R 53 "TrussSolver$Numbering" "unknowns" "I" ∈ gt_ws := gt_of 142 (by decide +kernel) (by decide +kernel)
theorem kw_143 : Cond.fieldLink RQ_S 113 "TrussSolver$Numbering" "unknowns" "I" ∈ gt_ws := gt_of 143 (by decide +kernel) (by decide +kernel)
theorem kw_167 : Cond.fieldLink RQ_E 11 "TrussSolver$Equations" "stiffness" "[[J" ∈ gt_ws := gt_of 167 (by decide +kernel) (by decide +kernel)
theorem kw_168 : Cond.fieldLink RQ_R 78 "TrussSolver$Equations" "stiffness" "[[J" ∈ gt_ws := gt_of 168 (by decide +kernel) (by decide +kernel)
theorem kw_169 : Cond.fieldLink RQ_E 16 "TrussSolver$Equations" "matrix" "[[J" ∈ gt_ws := gt_of 169 (by decide +kernel) (by decide +kernel)
theorem kw_170 : Cond.fieldLink RQ_E 19 "TrussSolver$Equations" "size" "I" ∈ gt_ws := gt_of 170 (by decide +kernel) (by decide +kernel)
theorem kw_171 : Cond.fieldLink RQ_E 23 "TrussSolver$Equations" "polynomial" "[J" ∈ gt_ws := gt_of 171 (by decide +kernel) (by decide +kernel)
theorem kw_172 : Cond.fieldLink RQ_E 27 "TrussSolver$Equations" "growth" "[J" ∈ gt_ws := gt_of 172 (by decide +kernel) (by decide +kernel)
theorem kw_173 : Cond.fieldLink RQ_E 30 "TrussSolver$Equations" "column" "[J" ∈ gt_ws := gt_of 173 (by decide +kernel) (by decide +kernel)
theorem kw_174 : Cond.fieldLink RQ_E 33 "TrussSolver$Equations" "image" "[J" ∈ gt_ws := gt_of 174 (by decide +kernel) (by decide +kernel)
theorem kw_197 : Cond.fieldLink RQ_R 9 "TrussSolver$Response" "factors" "[I" ∈ gt_ws := gt_of 197 (by decide +kernel) (by decide +kernel)
theorem kw_198 : Cond.fieldLink RQ_R 15 "TrussSolver$Response" "loads" "[J" ∈ gt_ws := gt_of 198 (by decide +kernel) (by decide +kernel)
theorem kw_199 : Cond.fieldLink RQ_R 19 "TrussSolver$Response" "numerators" "[J" ∈ gt_ws := gt_of 199 (by decide +kernel) (by decide +kernel)
theorem kw_200 : Cond.fieldLink RQ_S 128 "TrussSolver$Response" "numerators" "[J" ∈ gt_ws := gt_of 200 (by decide +kernel) (by decide +kernel)
theorem kw_201 : Cond.fieldLink RQ_R 22 "TrussSolver$Response" "rightSide" "[J" ∈ gt_ws := gt_of 201 (by decide +kernel) (by decide +kernel)
theorem kw_202 : Cond.fieldLink RQ_R 25 "TrussSolver$Response" "scaled" "[J" ∈ gt_ws := gt_of 202 (by decide +kernel) (by decide +kernel)
theorem kw_203 : Cond.fieldLink RQ_R 28 "TrussSolver$Response" "scale" "J" ∈ gt_ws := gt_of 203 (by decide +kernel) (by decide +kernel)
theorem kw_217 : Cond.fieldLink RQ_S 12 "TrussSolver" "truss" "LTrussSolver$Truss;" ∈ gt_ws := gt_of 217 (by decide +kernel) (by decide +kernel)
theorem kw_218 : Cond.fieldLink RQ_S 19 "TrussSolver" "numbering" "LTrussSolver$Numbering;" ∈ gt_ws := gt_of 218 (by decide +kernel) (by decide +kernel)
theorem kw_219 : Cond.fieldLink RQ_S 26 "TrussSolver" "equations" "LTrussSolver$Equations;" ∈ gt_ws := gt_of 219 (by decide +kernel) (by decide +kernel)
theorem kw_220 : Cond.fieldLink RQ_S 33 "TrussSolver" "response" "LTrussSolver$Response;" ∈ gt_ws := gt_of 220 (by decide +kernel) (by decide +kernel)
theorem kw_221 : Cond.fieldLink RQ_S 37 "TrussSolver" "isSealed" "Z" ∈ gt_ws := gt_of 221 (by decide +kernel) (by decide +kernel)
theorem kw_237 : Cond.methodLink RQ_S 41 y_S_isNode ∈ gt_ws := gt_of 237 (by decide +kernel) (by decide +kernel)
theorem kw_238 : Cond.static y_S_isNode ∈ gt_ws := gt_of 238 (by decide +kernel) (by decide +kernel)
theorem kw_239 : Cond.code y_S_isNode c_S_isNode 1 (some .boolean) ∈ gt_ws := gt_of 239 (by decide +kernel) (by decide +kernel)
theorem kw_240 : Cond.methodLink RQ_S 45 y_S_isOnGrid ∈ gt_ws := gt_of 240 (by decide +kernel) (by decide +kernel)
theorem kw_241 : Cond.static y_S_isOnGrid ∈ gt_ws := gt_of 241 (by decide +kernel) (by decide +kernel)
theorem kw_242 : Cond.code y_S_isOnGrid c_S_isOnGrid 1 (some .boolean) ∈ gt_ws := gt_of 242 (by decide +kernel) (by decide +kernel)
theorem kw_243 : Cond.methodLink RQ_S 48 y_T_hasOtherAt ∈ gt_ws := gt_of 243 (by decide +kernel) (by decide +kernel)
theorem kw_244 : Cond.instanceMethod y_T_hasOtherAt ∈ gt_ws := gt_of 244 (by decide +kernel) (by decide +kernel)
theorem kw_245 : Cond.selects RQ_T y_T_hasOtherAt y_T_hasOtherAt ∈ gt_ws := gt_of 245 (by decide +kernel) (by decide +kernel)
theorem kw_246 : Cond.code y_T_hasOtherAt c_T_hasOtherAt 5 (some .boolean) ∈ gt_ws := gt_of 246 (by decide +kernel) (by decide +kernel)
theorem kw_247 : Cond.methodLink RQ_T 52 y_T_isThere ∈ gt_ws := gt_of 247 (by decide +kernel) (by decide +kernel)
theorem kw_248 : Cond.instanceMethod y_T_isThere ∈ gt_ws := gt_of 248 (by decide +kernel) (by decide +kernel)
theorem kw_249 : Cond.selects RQ_T y_T_isThere y_T_isThere ∈ gt_ws := gt_of 249 (by decide +kernel) (by decide +kernel)
theorem kw_250 : Cond.code y_T_isThere c_T_isThere 2 (some .boolean) ∈ gt_ws := gt_of 250 (by decide +kernel) (by decide +kernel)
theorem kw_252 : Cond.static y_S_slotOf ∈ gt_ws := gt_of 252 (by decide +kernel) (by decide +kernel)
theorem kw_253 : Cond.code y_S_slotOf c_S_slotOf 2 (some .int) ∈ gt_ws := gt_of 253 (by decide +kernel) (by decide +kernel)
theorem kw_254 : Cond.methodLink RQ_S 52 y_T_putNode ∈ gt_ws := gt_of 254 (by decide +kernel) (by decide +kernel)
theorem kw_255 : Cond.instanceMethod y_T_putNode ∈ gt_ws := gt_of 255 (by decide +kernel) (by decide +kernel)
theorem kw_256 : Cond.selects RQ_T y_T_putNode y_T_putNode ∈ gt_ws := gt_of 256 (by decide +kernel) (by decide +kernel)
theorem kw_257 : Cond.code y_T_putNode c_T_putNode 4 none ∈ gt_ws := gt_of 257 (by decide +kernel) (by decide +kernel)
theorem kw_262 : Cond.methodLink RQ_S 60 y_T_addBar ∈ gt_ws := gt_of 262 (by decide +kernel) (by decide +kernel)
theorem kw_263 : Cond.instanceMethod y_T_addBar ∈ gt_ws := gt_of 263 (by decide +kernel) (by decide +kernel)
theorem kw_264 : Cond.selects RQ_T y_T_addBar y_T_addBar ∈ gt_ws := gt_of 264 (by decide +kernel) (by decide +kernel)
theorem kw_265 : Cond.code y_T_addBar c_T_addBar 5 (some .int) ∈ gt_ws := gt_of 265 (by decide +kernel) (by decide +kernel)
theorem kw_270 : Cond.methodLink RQ_S 64 y_S_isBarThere ∈ gt_ws := gt_of 270 (by decide +kernel) (by decide +kernel)
theorem kw_272 : Cond.instanceMethod y_S_isBarThere ∈ gt_ws := gt_of 272 (by decide +kernel) (by decide +kernel)
theorem kw_273 : Cond.code y_S_isBarThere c_S_isBarThere 2 (some .boolean) ∈ gt_ws := gt_of 273 (by decide +kernel) (by decide +kernel)
theorem kw_274 : Cond.methodLink RQ_S 67 y_T_removeBar ∈ gt_ws := gt_of 274 (by decide +kernel) (by decide +kernel)
theorem kw_275 : Cond.instanceMethod y_T_removeBar ∈ gt_ws := gt_of 275 (by decide +kernel) (by decide +kernel)
theorem kw_276 : Cond.selects RQ_T y_T_removeBar y_T_removeBar ∈ gt_ws := gt_of 276 (by decide +kernel) (by decide +kernel)
theorem kw_277 : Cond.code y_T_removeBar c_T_removeBar 3 none ∈ gt_ws := gt_of 277 (by decide +kernel) (by decide +kernel)
theorem kw_282 : Cond.methodLink RQ_S 71 y_S_isDirection ∈ gt_ws := gt_of 282 (by decide +kernel) (by decide +kernel)
theorem kw_283 : Cond.static y_S_isDirection ∈ gt_ws := gt_of 283 (by decide +kernel) (by decide +kernel)
theorem kw_284 : Cond.code y_S_isDirection c_S_isDirection 1 (some .boolean) ∈ gt_ws := gt_of 284 (by decide +kernel) (by decide +kernel)
theorem kw_285 : Cond.methodLink RQ_S 74 y_S_slotOf ∈ gt_ws := gt_of 285 (by decide +kernel) (by decide +kernel)
theorem kw_294 : Cond.methodLink RQ_S 89 y_S_isCase ∈ gt_ws := gt_of 294 (by decide +kernel) (by decide +kernel)
theorem kw_295 : Cond.static y_S_isCase ∈ gt_ws := gt_of 295 (by decide +kernel) (by decide +kernel)
theorem kw_296 : Cond.code y_S_isCase c_S_isCase 1 (some .boolean) ∈ gt_ws := gt_of 296 (by decide +kernel) (by decide +kernel)
theorem kw_301 : Cond.methodLink RQ_S 96 y_T_nodeCount ∈ gt_ws := gt_of 301 (by decide +kernel) (by decide +kernel)
theorem kw_302 : Cond.instanceMethod y_T_nodeCount ∈ gt_ws := gt_of 302 (by decide +kernel) (by decide +kernel)
theorem kw_303 : Cond.selects RQ_T y_T_nodeCount y_T_nodeCount ∈ gt_ws := gt_of 303 (by decide +kernel) (by decide +kernel)
theorem kw_304 : Cond.code y_T_nodeCount c_T_nodeCount 1 (some .int) ∈ gt_ws := gt_of 304 (by decide +kernel) (by decide +kernel)
theorem kw_305 : Cond.methodLink RQ_T 46 y_J_bitCount ∈ gt_ws := gt_of 305 (by decide +kernel) (by decide +kernel)
theorem kw_306 : Cond.static y_J_bitCount ∈ gt_ws := gt_of 306 (by decide +kernel) (by decide +kernel)
theorem kw_307 : Cond.code y_J_bitCount c_J_bitCount 1 (some .int) ∈ gt_ws := gt_of 307 (by decide +kernel) (by decide +kernel)
theorem kw_308 : Cond.constant RQ_JI 265 (1431655765) ∈ gt_ws := gt_of 308 (by decide +kernel) (by decide +kernel)
theorem kw_309 : Cond.constant RQ_JI 266 (858993459) ∈ gt_ws := gt_of 309 (by decide +kernel) (by decide +kernel)
theorem kw_310 : Cond.constant RQ_JI 267 (252645135) ∈ gt_ws := gt_of 310 (by decide +kernel) (by decide +kernel)
theorem kw_311 : Cond.methodLink RQ_S 100 y_T_firstBadBar ∈ gt_ws := gt_of 311 (by decide +kernel) (by decide +kernel)
theorem kw_312 : Cond.instanceMethod y_T_firstBadBar ∈ gt_ws := gt_of 312 (by decide +kernel) (by decide +kernel)
theorem kw_313 : Cond.selects RQ_T y_T_firstBadBar y_T_firstBadBar ∈ gt_ws := gt_of 313 (by decide +kernel) (by decide +kernel)
theorem kw_314 : Cond.code y_T_firstBadBar c_T_firstBadBar 2 (some .int) ∈ gt_ws := gt_of 314 (by decide +kernel) (by decide +kernel)
theorem kw_315 : Cond.methodLink RQ_T 60 y_T_isGood ∈ gt_ws := gt_of 315 (by decide +kernel) (by decide +kernel)
theorem kw_317 : Cond.instanceMethod y_T_isGood ∈ gt_ws := gt_of 317 (by decide +kernel) (by decide +kernel)
theorem kw_318 : Cond.code y_T_isGood c_T_isGood 4 (some .boolean) ∈ gt_ws := gt_of 318 (by decide +kernel) (by decide +kernel)
theorem kw_319 : Cond.methodLink RQ_T 63 y_T_reach ∈ gt_ws := gt_of 319 (by decide +kernel) (by decide +kernel)
theorem kw_321 : Cond.instanceMethod y_T_reach ∈ gt_ws := gt_of 321 (by decide +kernel) (by decide +kernel)
theorem kw_322 : Cond.code y_T_reach c_T_reach 3 (some .int) ∈ gt_ws := gt_of 322 (by decide +kernel) (by decide +kernel)
theorem kw_323 : Cond.methodLink RQ_T 66 (⟨"java/lang/Math", "abs", "(I)I"⟩ : MethodName) ∈ gt_ws := gt_of 323 (by decide +kernel) (by decide +kernel)
theorem kw_324 : Cond.static (⟨"java/lang/Math", "abs", "(I)I"⟩ : MethodName) ∈ gt_ws := gt_of 324 (by decide +kernel) (by decide +kernel)
theorem kw_325 : Cond.code (⟨"java/lang/Math", "abs", "(I)I"⟩ : MethodName) prog_9_method_59_code 1 (some .int) ∈ gt_ws := gt_of 325 (by decide +kernel) (by decide +kernel)
theorem kw_326 : Cond.methodLink RQ_S 103 y_N_make ∈ gt_ws := gt_of 326 (by decide +kernel) (by decide +kernel)
theorem kw_327 : Cond.instanceMethod y_N_make ∈ gt_ws := gt_of 327 (by decide +kernel) (by decide +kernel)
theorem kw_328 : Cond.selects RQ_N y_N_make y_N_make ∈ gt_ws := gt_of 328 (by decide +kernel) (by decide +kernel)
theorem kw_329 : Cond.code y_N_make c_N_make 2 none ∈ gt_ws := gt_of 329 (by decide +kernel) (by decide +kernel)
theorem kw_330 : Cond.methodLink RQ_N 34 y_N_findNeighbours ∈ gt_ws := gt_of 330 (by decide +kernel) (by decide +kernel)
theorem kw_332 : Cond.instanceMethod y_N_findNeighbours ∈ gt_ws := gt_of 332 (by decide +kernel) (by decide +kernel)
theorem kw_333 : Cond.code y_N_findNeighbours c_N_findNeighbours 5 none ∈ gt_ws := gt_of 333 (by decide +kernel) (by decide +kernel)
theorem kw_334 : Cond.methodLink RQ_N 47 y_J_fillI ∈ gt_ws := gt_of 334 (by decide +kernel) (by decide +kernel)
theorem kw_335 : Cond.static y_J_fillI ∈ gt_ws := gt_of 335 (by decide +kernel) (by decide +kernel)
theorem kw_336 : Cond.code y_J_fillI c_J_fillI 4 none ∈ gt_ws := gt_of 336 (by decide +kernel) (by decide +kernel)
theorem kw_337 : Cond.methodLink RQ_N 38 y_N_placeNodes ∈ gt_ws := gt_of 337 (by decide +kernel) (by decide +kernel)
theorem kw_339 : Cond.instanceMethod y_N_placeNodes ∈ gt_ws := gt_of 339 (by decide +kernel) (by decide +kernel)
theorem kw_340 : Cond.code y_N_placeNodes c_N_placeNodes 4 none ∈ gt_ws := gt_of 340 (by decide +kernel) (by decide +kernel)
theorem kw_341 : Cond.methodLink RQ_N 64 y_T_nodeCount ∈ gt_ws := gt_of 341 (by decide +kernel) (by decide +kernel)
theorem kw_342 : Cond.methodLink RQ_N 71 y_N_leastJoined ∈ gt_ws := gt_of 342 (by decide +kernel) (by decide +kernel)
theorem kw_344 : Cond.instanceMethod y_N_leastJoined ∈ gt_ws := gt_of 344 (by decide +kernel) (by decide +kernel)
theorem kw_345 : Cond.code y_N_leastJoined c_N_leastJoined 6 (some .int) ∈ gt_ws := gt_of 345 (by decide +kernel) (by decide +kernel)
theorem kw_346 : Cond.methodLink RQ_N 82 y_J_bitCount ∈ gt_ws := gt_of 346 (by decide +kernel) (by decide +kernel)
theorem kw_347 : Cond.methodLink RQ_N 75 y_N_append ∈ gt_ws := gt_of 347 (by decide +kernel) (by decide +kernel)
theorem kw_349 : Cond.instanceMethod y_N_append ∈ gt_ws := gt_of 349 (by decide +kernel) (by decide +kernel)
theorem kw_350 : Cond.code y_N_append c_N_append 2 none ∈ gt_ws := gt_of 350 (by decide +kernel) (by decide +kernel)
theorem kw_351 : Cond.methodLink RQ_N 79 y_N_appendNeighboursOf ∈ gt_ws := gt_of 351 (by decide +kernel) (by decide +kernel)
theorem kw_353 : Cond.instanceMethod y_N_appendNeighboursOf ∈ gt_ws := gt_of 353 (by decide +kernel) (by decide +kernel)
theorem kw_354 : Cond.code y_N_appendNeighboursOf c_N_appendNeighboursOf 4 none ∈ gt_ws := gt_of 354 (by decide +kernel) (by decide +kernel)
theorem kw_355 : Cond.methodLink RQ_N 41 y_N_turnRound ∈ gt_ws := gt_of 355 (by decide +kernel) (by decide +kernel)
theorem kw_357 : Cond.instanceMethod y_N_turnRound ∈ gt_ws := gt_of 357 (by decide +kernel) (by decide +kernel)
theorem kw_358 : Cond.code y_N_turnRound c_N_turnRound 4 none ∈ gt_ws := gt_of 358 (by decide +kernel) (by decide +kernel)
theorem kw_359 : Cond.methodLink RQ_N 44 y_N_numberSlots ∈ gt_ws := gt_of 359 (by decide +kernel) (by decide +kernel)
theorem kw_361 : Cond.instanceMethod y_N_numberSlots ∈ gt_ws := gt_of 361 (by decide +kernel) (by decide +kernel)
theorem kw_362 : Cond.code y_N_numberSlots c_N_numberSlots 4 none ∈ gt_ws := gt_of 362 (by decide +kernel) (by decide +kernel)
theorem kw_364 : Cond.methodLink RQ_N 91 y_N_numberSlot ∈ gt_ws := gt_of 364 (by decide +kernel) (by decide +kernel)
theorem kw_366 : Cond.instanceMethod y_N_numberSlot ∈ gt_ws := gt_of 366 (by decide +kernel) (by decide +kernel)
theorem kw_367 : Cond.code y_N_numberSlot c_N_numberSlot 3 none ∈ gt_ws := gt_of 367 (by decide +kernel) (by decide +kernel)
theorem kw_368 : Cond.methodLink RQ_S 107 y_E_make ∈ gt_ws := gt_of 368 (by decide +kernel) (by decide +kernel)
theorem kw_369 : Cond.instanceMethod y_E_make ∈ gt_ws := gt_of 369 (by decide +kernel) (by decide +kernel)
theorem kw_370 : Cond.selects RQ_E y_E_make y_E_make ∈ gt_ws := gt_of 370 (by decide +kernel) (by decide +kernel)
theorem kw_371 : Cond.code y_E_make c_E_make 5 none ∈ gt_ws := gt_of 371 (by decide +kernel) (by decide +kernel)
theorem kw_372 : Cond.methodLink RQ_E 36 y_E_sumUpStiffness ∈ gt_ws := gt_of 372 (by decide +kernel) (by decide +kernel)
theorem kw_374 : Cond.instanceMethod y_E_sumUpStiffness ∈ gt_ws := gt_of 374 (by decide +kernel) (by decide +kernel)
theorem kw_375 : Cond.code y_E_sumUpStiffness c_E_sumUpStiffness 3 none ∈ gt_ws := gt_of 375 (by decide +kernel) (by decide +kernel)
theorem kw_376 : Cond.methodLink RQ_E 49 y_J_fillL ∈ gt_ws := gt_of 376 (by decide +kernel) (by decide +kernel)
theorem kw_377 : Cond.static y_J_fillL ∈ gt_ws := gt_of 377 (by decide +kernel) (by decide +kernel)
theorem kw_378 : Cond.code y_J_fillL c_J_fillL 5 none ∈ gt_ws := gt_of 378 (by decide +kernel) (by decide +kernel)
theorem kw_379 : Cond.methodLink RQ_E 63 y_E_addStiffnessOfBar ∈ gt_ws := gt_of 379 (by decide +kernel) (by decide +kernel)
theorem kw_381 : Cond.instanceMethod y_E_addStiffnessOfBar ∈ gt_ws := gt_of 381 (by decide +kernel) (by decide +kernel)
theorem kw_382 : Cond.code y_E_addStiffnessOfBar c_E_addStiffnessOfBar 6 none ∈ gt_ws := gt_of 382 (by decide +kernel) (by decide +kernel)
theorem kw_383 : Cond.methodLink RQ_E 70 y_T_stretchBy ∈ gt_ws := gt_of 383 (by decide +kernel) (by decide +kernel)
theorem kw_384 : Cond.instanceMethod y_T_stretchBy ∈ gt_ws := gt_of 384 (by decide +kernel) (by decide +kernel)
theorem kw_385 : Cond.selects RQ_T y_T_stretchBy y_T_stretchBy ∈ gt_ws := gt_of 385 (by decide +kernel) (by decide +kernel)
theorem kw_386 : Cond.code y_T_stretchBy c_T_stretchBy 5 (some .int) ∈ gt_ws := gt_of 386 (by decide +kernel) (by decide +kernel)
theorem kw_387 : Cond.methodLink RQ_T 71 y_T_signOf ∈ gt_ws := gt_of 387 (by decide +kernel) (by decide +kernel)
theorem kw_388 : Cond.static y_T_signOf ∈ gt_ws := gt_of 388 (by decide +kernel) (by decide +kernel)
theorem kw_389 : Cond.code y_T_signOf c_T_signOf 1 (some .int) ∈ gt_ws := gt_of 389 (by decide +kernel) (by decide +kernel)
theorem kw_390 : Cond.methodLink RQ_S 110 y_E_findWeakUnknown ∈ gt_ws := gt_of 390 (by decide +kernel) (by decide +kernel)
theorem kw_391 : Cond.instanceMethod y_E_findWeakUnknown ∈ gt_ws := gt_of 391 (by decide +kernel) (by decide +kernel)
theorem kw_392 : Cond.selects RQ_E y_E_findWeakUnknown y_E_findWeakUnknown ∈ gt_ws := gt_of 392 (by decide +kernel) (by decide +kernel)
theorem kw_393 : Cond.code y_E_findWeakUnknown c_E_findWeakUnknown 2 (some .int) ∈ gt_ws := gt_of 393 (by decide +kernel) (by decide +kernel)
theorem kw_394 : Cond.methodLink RQ_E 74 y_E_growPolynomial ∈ gt_ws := gt_of 394 (by decide +kernel) (by decide +kernel)
theorem kw_396 : Cond.instanceMethod y_E_growPolynomial ∈ gt_ws := gt_of 396 (by decide +kernel) (by decide +kernel)
theorem kw_397 : Cond.code y_E_growPolynomial c_E_growPolynomial 6 none ∈ gt_ws := gt_of 397 (by decide +kernel) (by decide +kernel)
theorem kw_398 : Cond.methodLink RQ_E 78 y_E_findGrowth ∈ gt_ws := gt_of 398 (by decide +kernel) (by decide +kernel)
theorem kw_400 : Cond.instanceMethod y_E_findGrowth ∈ gt_ws := gt_of 400 (by decide +kernel) (by decide +kernel)
theorem kw_401 : Cond.code y_E_findGrowth c_E_findGrowth 3 none ∈ gt_ws := gt_of 401 (by decide +kernel) (by decide +kernel)
theorem kw_402 : Cond.methodLink RQ_E 81 y_E_rowTimes ∈ gt_ws := gt_of 402 (by decide +kernel) (by decide +kernel)
theorem kw_404 : Cond.instanceMethod y_E_rowTimes ∈ gt_ws := gt_of 404 (by decide +kernel) (by decide +kernel)
theorem kw_405 : Cond.code y_E_rowTimes c_E_rowTimes 7 (some .long) ∈ gt_ws := gt_of 405 (by decide +kernel) (by decide +kernel)
theorem kw_406 : Cond.methodLink RQ_E 85 y_E_multiply ∈ gt_ws := gt_of 406 (by decide +kernel) (by decide +kernel)
theorem kw_408 : Cond.instanceMethod y_E_multiply ∈ gt_ws := gt_of 408 (by decide +kernel) (by decide +kernel)
theorem kw_409 : Cond.code y_E_multiply c_E_multiply 4 none ∈ gt_ws := gt_of 409 (by decide +kernel) (by decide +kernel)
theorem kw_410 : Cond.methodLink RQ_E 89 (⟨"java/lang/System", "arraycopy", "(Ljava/lang/Object;ILjava/lang/Object;II)V"⟩ : MethodName) ∈ gt_ws := gt_of 410 (by decide +kernel) (by decide +kernel)
theorem kw_411 : Cond.static (⟨"java/lang/System", "arraycopy", "(Ljava/lang/Object;ILjava/lang/Object;II)V"⟩ : MethodName) ∈ gt_ws := gt_of 411 (by decide +kernel) (by decide +kernel)
theorem kw_412 : Cond.native (⟨"java/lang/System", "arraycopy", "(Ljava/lang/Object;ILjava/lang/Object;II)V"⟩ : MethodName) ∈ gt_ws := gt_of 412 (by decide +kernel) (by decide +kernel)
theorem kw_421 : Cond.methodLink RQ_S 116 y_S_isAnswerable ∈ gt_ws := gt_of 421 (by decide +kernel) (by decide +kernel)
theorem kw_423 : Cond.instanceMethod y_S_isAnswerable ∈ gt_ws := gt_of 423 (by decide +kernel) (by decide +kernel)
theorem kw_424 : Cond.code y_S_isAnswerable c_S_isAnswerable 4 (some .boolean) ∈ gt_ws := gt_of 424 (by decide +kernel) (by decide +kernel)
theorem kw_425 : Cond.methodLink RQ_S 160 y_S_isNodeThere ∈ gt_ws := gt_of 425 (by decide +kernel) (by decide +kernel)
theorem kw_427 : Cond.instanceMethod y_S_isNodeThere ∈ gt_ws := gt_of 427 (by decide +kernel) (by decide +kernel)
theorem kw_428 : Cond.code y_S_isNodeThere c_S_isNodeThere 2 (some .boolean) ∈ gt_ws := gt_of 428 (by decide +kernel) (by decide +kernel)
theorem kw_429 : Cond.methodLink RQ_S 169 y_T_isThere ∈ gt_ws := gt_of 429 (by decide +kernel) (by decide +kernel)
theorem kw_430 : Cond.methodLink RQ_S 136 y_S_isPart ∈ gt_ws := gt_of 430 (by decide +kernel) (by decide +kernel)
theorem kw_431 : Cond.static y_S_isPart ∈ gt_ws := gt_of 431 (by decide +kernel) (by decide +kernel)
theorem kw_432 : Cond.code y_S_isPart c_S_isPart 1 (some .boolean) ∈ gt_ws := gt_of 432 (by decide +kernel) (by decide +kernel)
theorem kw_433 : Cond.constantLong RQ_S 119 (-4000000000000000000) ∈ gt_ws := gt_of 433 (by decide +kernel) (by decide +kernel)
theorem kw_434 : Cond.methodLink RQ_S 121 y_R_chooseCase ∈ gt_ws := gt_of 434 (by decide +kernel) (by decide +kernel)
theorem kw_435 : Cond.instanceMethod y_R_chooseCase ∈ gt_ws := gt_of 435 (by decide +kernel) (by decide +kernel)
theorem kw_436 : Cond.selects RQ_R y_R_chooseCase y_R_chooseCase ∈ gt_ws := gt_of 436 (by decide +kernel) (by decide +kernel)
theorem kw_437 : Cond.code y_R_chooseCase c_R_chooseCase 3 none ∈ gt_ws := gt_of 437 (by decide +kernel) (by decide +kernel)
theorem kw_438 : Cond.methodLink RQ_S 124 y_R_respond ∈ gt_ws := gt_of 438 (by decide +kernel) (by decide +kernel)
theorem kw_439 : Cond.instanceMethod y_R_respond ∈ gt_ws := gt_of 439 (by decide +kernel) (by decide +kernel)
theorem kw_440 : Cond.selects RQ_R y_R_respond y_R_respond ∈ gt_ws := gt_of 440 (by decide +kernel) (by decide +kernel)
theorem kw_441 : Cond.code y_R_respond c_R_respond 5 none ∈ gt_ws := gt_of 441 (by decide +kernel) (by decide +kernel)
theorem kw_442 : Cond.methodLink RQ_R 32 y_E_wholeMinor ∈ gt_ws := gt_of 442 (by decide +kernel) (by decide +kernel)
theorem kw_443 : Cond.instanceMethod y_E_wholeMinor ∈ gt_ws := gt_of 443 (by decide +kernel) (by decide +kernel)
theorem kw_444 : Cond.selects RQ_E y_E_wholeMinor y_E_wholeMinor ∈ gt_ws := gt_of 444 (by decide +kernel) (by decide +kernel)
theorem kw_445 : Cond.code y_E_wholeMinor c_E_wholeMinor 1 (some .long) ∈ gt_ws := gt_of 445 (by decide +kernel) (by decide +kernel)
theorem kw_446 : Cond.methodLink RQ_R 38 y_R_sumUpLoads ∈ gt_ws := gt_of 446 (by decide +kernel) (by decide +kernel)
theorem kw_448 : Cond.instanceMethod y_R_sumUpLoads ∈ gt_ws := gt_of 448 (by decide +kernel) (by decide +kernel)
theorem kw_449 : Cond.code y_R_sumUpLoads c_R_sumUpLoads 6 none ∈ gt_ws := gt_of 449 (by decide +kernel) (by decide +kernel)
theorem kw_450 : Cond.methodLink RQ_R 42 y_R_moveHeldSlots ∈ gt_ws := gt_of 450 (by decide +kernel) (by decide +kernel)
theorem kw_452 : Cond.instanceMethod y_R_moveHeldSlots ∈ gt_ws := gt_of 452 (by decide +kernel) (by decide +kernel)
theorem kw_453 : Cond.code y_R_moveHeldSlots c_R_moveHeldSlots 3 none ∈ gt_ws := gt_of 453 (by decide +kernel) (by decide +kernel)
theorem kw_454 : Cond.methodLink RQ_R 71 y_R_heldDisplacement ∈ gt_ws := gt_of 454 (by decide +kernel) (by decide +kernel)
theorem kw_456 : Cond.instanceMethod y_R_heldDisplacement ∈ gt_ws := gt_of 456 (by decide +kernel) (by decide +kernel)
theorem kw_457 : Cond.code y_R_heldDisplacement c_R_heldDisplacement 6 (some .long) ∈ gt_ws := gt_of 457 (by decide +kernel) (by decide +kernel)
theorem kw_458 : Cond.methodLink RQ_R 45 y_R_findRightSide ∈ gt_ws := gt_of 458 (by decide +kernel) (by decide +kernel)
theorem kw_460 : Cond.instanceMethod y_R_findRightSide ∈ gt_ws := gt_of 460 (by decide +kernel) (by decide +kernel)
theorem kw_461 : Cond.code y_R_findRightSide c_R_findRightSide 9 none ∈ gt_ws := gt_of 461 (by decide +kernel) (by decide +kernel)
theorem kw_462 : Cond.methodLink RQ_R 49 y_E_solveScaled ∈ gt_ws := gt_of 462 (by decide +kernel) (by decide +kernel)
theorem kw_463 : Cond.instanceMethod y_E_solveScaled ∈ gt_ws := gt_of 463 (by decide +kernel) (by decide +kernel)
theorem kw_464 : Cond.selects RQ_E y_E_solveScaled y_E_solveScaled ∈ gt_ws := gt_of 464 (by decide +kernel) (by decide +kernel)
theorem kw_465 : Cond.code y_E_solveScaled c_E_solveScaled 5 none ∈ gt_ws := gt_of 465 (by decide +kernel) (by decide +kernel)
theorem kw_466 : Cond.methodLink RQ_S 132 y_S_partOfFraction ∈ gt_ws := gt_of 466 (by decide +kernel) (by decide +kernel)
theorem kw_468 : Cond.instanceMethod y_S_partOfFraction ∈ gt_ws := gt_of 468 (by decide +kernel) (by decide +kernel)
theorem kw_469 : Cond.code y_S_partOfFraction c_S_partOfFraction 8 (some .long) ∈ gt_ws := gt_of 469 (by decide +kernel) (by decide +kernel)
theorem kw_470 : Cond.methodLink RQ_S 150 y_E_wholeMinor ∈ gt_ws := gt_of 470 (by decide +kernel) (by decide +kernel)
theorem kw_471 : Cond.methodLink RQ_S 172 (⟨"java/lang/Math", "abs", "(J)J"⟩ : MethodName) ∈ gt_ws := gt_of 471 (by decide +kernel) (by decide +kernel)
theorem kw_472 : Cond.static (⟨"java/lang/Math", "abs", "(J)J"⟩ : MethodName) ∈ gt_ws := gt_of 472 (by decide +kernel) (by decide +kernel)
theorem kw_473 : Cond.code (⟨"java/lang/Math", "abs", "(J)J"⟩ : MethodName) prog_9_method_61_code 2 (some .long) ∈ gt_ws := gt_of 473 (by decide +kernel) (by decide +kernel)
theorem kw_474 : Cond.methodLink RQ_S 178 y_S_greatestDivisor ∈ gt_ws := gt_of 474 (by decide +kernel) (by decide +kernel)
theorem kw_475 : Cond.static y_S_greatestDivisor ∈ gt_ws := gt_of 475 (by decide +kernel) (by decide +kernel)
theorem kw_476 : Cond.code y_S_greatestDivisor c_S_greatestDivisor 11 (some .long) ∈ gt_ws := gt_of 476 (by decide +kernel) (by decide +kernel)
theorem kw_481 : Cond.methodLink RQ_S 139 y_R_forceNumerator ∈ gt_ws := gt_of 481 (by decide +kernel) (by decide +kernel)
theorem kw_482 : Cond.instanceMethod y_R_forceNumerator ∈ gt_ws := gt_of 482 (by decide +kernel) (by decide +kernel)
theorem kw_483 : Cond.selects RQ_R y_R_forceNumerator y_R_forceNumerator ∈ gt_ws := gt_of 483 (by decide +kernel) (by decide +kernel)
theorem kw_484 : Cond.code y_R_forceNumerator c_R_forceNumerator 6 (some .long) ∈ gt_ws := gt_of 484 (by decide +kernel) (by decide +kernel)
theorem kw_485 : Cond.methodLink RQ_R 82 y_T_stretchBy ∈ gt_ws := gt_of 485 (by decide +kernel) (by decide +kernel)
theorem kw_490 : Cond.methodLink RQ_S 143 y_R_reactionNumerator ∈ gt_ws := gt_of 490 (by decide +kernel) (by decide +kernel)
theorem kw_491 : Cond.instanceMethod y_R_reactionNumerator ∈ gt_ws := gt_of 491 (by decide +kernel) (by decide +kernel)
theorem kw_492 : Cond.selects RQ_R y_R_reactionNumerator y_R_reactionNumerator ∈ gt_ws := gt_of 492 (by decide +kernel) (by decide +kernel)
theorem kw_493 : Cond.code y_R_reactionNumerator c_R_reactionNumerator 6 (some .long) ∈ gt_ws := gt_of 493 (by decide +kernel) (by decide +kernel)
theorem kw_498 : Cond.methodLink RQ_S 147 y_R_chooseFactors ∈ gt_ws := gt_of 498 (by decide +kernel) (by decide +kernel)
theorem kw_499 : Cond.instanceMethod y_R_chooseFactors ∈ gt_ws := gt_of 499 (by decide +kernel) (by decide +kernel)
theorem kw_500 : Cond.selects RQ_R y_R_chooseFactors y_R_chooseFactors ∈ gt_ws := gt_of 500 (by decide +kernel) (by decide +kernel)
theorem kw_501 : Cond.code y_R_chooseFactors c_R_chooseFactors 3 none ∈ gt_ws := gt_of 501 (by decide +kernel) (by decide +kernel)
theorem kw_518 : Cond.methodLink RQ_S 166 y_E_profile ∈ gt_ws := gt_of 518 (by decide +kernel) (by decide +kernel)
theorem kw_519 : Cond.instanceMethod y_E_profile ∈ gt_ws := gt_of 519 (by decide +kernel) (by decide +kernel)
theorem kw_520 : Cond.selects RQ_E y_E_profile y_E_profile ∈ gt_ws := gt_of 520 (by decide +kernel) (by decide +kernel)
theorem kw_521 : Cond.code y_E_profile c_E_profile 4 (some .int) ∈ gt_ws := gt_of 521 (by decide +kernel) (by decide +kernel)
theorem kw_528 : Cond.fieldLink RQ_M 7 "TrussSolverModel" "there" "[Z" ∈ gt_ws := gt_of 528 (by decide +kernel) (by decide +kernel)
theorem kw_529 : Cond.fieldLink RQ_M 13 "TrussSolverModel" "px" "[I" ∈ gt_ws := gt_of 529 (by decide +kernel) (by decide +kernel)
theorem kw_530 : Cond.fieldLink RQ_M 17 "TrussSolverModel" "py" "[I" ∈ gt_ws := gt_of 530 (by decide +kernel) (by decide +kernel)
theorem kw_531 : Cond.fieldLink RQ_M 20 "TrussSolverModel" "first" "[I" ∈ gt_ws := gt_of 531 (by decide +kernel) (by decide +kernel)
theorem kw_532 : Cond.fieldLink RQ_M 23 "TrussSolverModel" "second" "[I" ∈ gt_ws := gt_of 532 (by decide +kernel) (by decide +kernel)
theorem kw_533 : Cond.fieldLink RQ_M 26 "TrussSolverModel" "stiff" "[I" ∈ gt_ws := gt_of 533 (by decide +kernel) (by decide +kernel)
theorem kw_534 : Cond.fieldLink RQ_M 65 "TrussSolverModel" "bars" "I" ∈ gt_ws := gt_of 534 (by decide +kernel) (by decide +kernel)
theorem kw_535 : Cond.fieldLink RQ_M 29 "TrussSolverModel" "held" "[Z" ∈ gt_ws := gt_of 535 (by decide +kernel) (by decide +kernel)
theorem kw_536 : Cond.fieldLink RQ_M 32 "TrussSolverModel" "fixed" "[I" ∈ gt_ws := gt_of 536 (by decide +kernel) (by decide +kernel)
theorem kw_537 : Cond.fieldLink RQ_M 35 "TrussSolverModel" "spring" "[I" ∈ gt_ws := gt_of 537 (by decide +kernel) (by decide +kernel)
theorem kw_538 : Cond.fieldLink RQ_M 38 "TrussSolverModel" "loads" "[I" ∈ gt_ws := gt_of 538 (by decide +kernel) (by decide +kernel)
theorem kw_539 : Cond.fieldLink RQ_M 61 "TrussSolverModel" "sealed" "Z" ∈ gt_ws := gt_of 539 (by decide +kernel) (by decide +kernel)
theorem kw_540 : Cond.fieldLink RQ_M 41 "TrussSolverModel" "order" "[I" ∈ gt_ws := gt_of 540 (by decide +kernel) (by decide +kernel)
theorem kw_541 : Cond.fieldLink RQ_M 76 "TrussSolverModel" "ordered" "I" ∈ gt_ws := gt_of 541 (by decide +kernel) (by decide +kernel)
theorem kw_542 : Cond.fieldLink RQ_M 44 "TrussSolverModel" "place" "[I" ∈ gt_ws := gt_of 542 (by decide +kernel) (by decide +kernel)
theorem kw_543 : Cond.fieldLink RQ_M 93 "TrussSolverModel" "unknowns" "I" ∈ gt_ws := gt_of 543 (by decide +kernel) (by decide +kernel)
theorem kw_544 : Cond.fieldLink RQ_M 47 "TrussSolverModel" "full" "[I" ∈ gt_ws := gt_of 544 (by decide +kernel) (by decide +kernel)
theorem kw_545 : Cond.fieldLink RQ_M 50 "TrussSolverModel" "right" "[J" ∈ gt_ws := gt_of 545 (by decide +kernel) (by decide +kernel)
theorem kw_546 : Cond.fieldLink RQ_M 54 "TrussSolverModel" "work" "[J" ∈ gt_ws := gt_of 546 (by decide +kernel) (by decide +kernel)
theorem kw_547 : Cond.fieldLink RQ_M 141 "TrussSolverModel" "top" "J" ∈ gt_ws := gt_of 547 (by decide +kernel) (by decide +kernel)
theorem kw_548 : Cond.fieldLink RQ_M 145 "TrussSolverModel" "below" "J" ∈ gt_ws := gt_of 548 (by decide +kernel) (by decide +kernel)
theorem kw_596 : Cond.methodLink RQ_M 57 y_M_off ∈ gt_ws := gt_of 596 (by decide +kernel) (by decide +kernel)
theorem kw_598 : Cond.instanceMethod y_M_off ∈ gt_ws := gt_of 598 (by decide +kernel) (by decide +kernel)
theorem kw_599 : Cond.code y_M_off c_M_off 3 (some .boolean) ∈ gt_ws := gt_of 599 (by decide +kernel) (by decide +kernel)
theorem kw_624 : Cond.methodLink RQ_M 122 y_M_makeOrder ∈ gt_ws := gt_of 624 (by decide +kernel) (by decide +kernel)
theorem kw_626 : Cond.instanceMethod y_M_makeOrder ∈ gt_ws := gt_of 626 (by decide +kernel) (by decide +kernel)
theorem kw_627 : Cond.code y_M_makeOrder c_M_makeOrder 4 none ∈ gt_ws := gt_of 627 (by decide +kernel) (by decide +kernel)
theorem kw_628 : Cond.methodLink RQ_M 86 y_M_candidate ∈ gt_ws := gt_of 628 (by decide +kernel) (by decide +kernel)
theorem kw_630 : Cond.instanceMethod y_M_candidate ∈ gt_ws := gt_of 630 (by decide +kernel) (by decide +kernel)
theorem kw_631 : Cond.code y_M_candidate c_M_candidate 5 (some .int) ∈ gt_ws := gt_of 631 (by decide +kernel) (by decide +kernel)
theorem kw_632 : Cond.methodLink RQ_M 79 y_M_inOrder ∈ gt_ws := gt_of 632 (by decide +kernel) (by decide +kernel)
theorem kw_634 : Cond.instanceMethod y_M_inOrder ∈ gt_ws := gt_of 634 (by decide +kernel) (by decide +kernel)
theorem kw_635 : Cond.code y_M_inOrder c_M_inOrder 3 (some .boolean) ∈ gt_ws := gt_of 635 (by decide +kernel) (by decide +kernel)
theorem kw_636 : Cond.methodLink RQ_M 73 y_M_joined ∈ gt_ws := gt_of 636 (by decide +kernel) (by decide +kernel)
theorem kw_638 : Cond.instanceMethod y_M_joined ∈ gt_ws := gt_of 638 (by decide +kernel) (by decide +kernel)
theorem kw_639 : Cond.code y_M_joined c_M_joined 4 (some .boolean) ∈ gt_ws := gt_of 639 (by decide +kernel) (by decide +kernel)
theorem kw_640 : Cond.methodLink RQ_M 83 y_M_neighbours ∈ gt_ws := gt_of 640 (by decide +kernel) (by decide +kernel)
theorem kw_642 : Cond.instanceMethod y_M_neighbours ∈ gt_ws := gt_of 642 (by decide +kernel) (by decide +kernel)
theorem kw_643 : Cond.code y_M_neighbours c_M_neighbours 4 (some .int) ∈ gt_ws := gt_of 643 (by decide +kernel) (by decide +kernel)
theorem kw_644 : Cond.methodLink RQ_M 89 y_M_append ∈ gt_ws := gt_of 644 (by decide +kernel) (by decide +kernel)
theorem kw_646 : Cond.instanceMethod y_M_append ∈ gt_ws := gt_of 646 (by decide +kernel) (by decide +kernel)
theorem kw_647 : Cond.code y_M_append c_M_append 2 none ∈ gt_ws := gt_of 647 (by decide +kernel) (by decide +kernel)
theorem kw_648 : Cond.methodLink RQ_M 125 y_M_good ∈ gt_ws := gt_of 648 (by decide +kernel) (by decide +kernel)
theorem kw_650 : Cond.instanceMethod y_M_good ∈ gt_ws := gt_of 650 (by decide +kernel) (by decide +kernel)
theorem kw_651 : Cond.code y_M_good c_M_good 4 (some .boolean) ∈ gt_ws := gt_of 651 (by decide +kernel) (by decide +kernel)
theorem kw_652 : Cond.methodLink RQ_M 128 y_M_makeMatrix ∈ gt_ws := gt_of 652 (by decide +kernel) (by decide +kernel)
theorem kw_654 : Cond.instanceMethod y_M_makeMatrix ∈ gt_ws := gt_of 654 (by decide +kernel) (by decide +kernel)
theorem kw_655 : Cond.code y_M_makeMatrix c_M_makeMatrix 6 none ∈ gt_ws := gt_of 655 (by decide +kernel) (by decide +kernel)
theorem kw_656 : Cond.methodLink RQ_M 96 y_M_way ∈ gt_ws := gt_of 656 (by decide +kernel) (by decide +kernel)
theorem kw_658 : Cond.instanceMethod y_M_way ∈ gt_ws := gt_of 658 (by decide +kernel) (by decide +kernel)
theorem kw_659 : Cond.code y_M_way c_M_way 5 (some .int) ∈ gt_ws := gt_of 659 (by decide +kernel) (by decide +kernel)
theorem kw_660 : Cond.methodLink RQ_M 69 y_M_sign ∈ gt_ws := gt_of 660 (by decide +kernel) (by decide +kernel)
theorem kw_662 : Cond.instanceMethod y_M_sign ∈ gt_ws := gt_of 662 (by decide +kernel) (by decide +kernel)
theorem kw_663 : Cond.code y_M_sign c_M_sign 2 (some .int) ∈ gt_ws := gt_of 663 (by decide +kernel) (by decide +kernel)
theorem kw_664 : Cond.methodLink RQ_M 131 y_M_det ∈ gt_ws := gt_of 664 (by decide +kernel) (by decide +kernel)
theorem kw_666 : Cond.instanceMethod y_M_det ∈ gt_ws := gt_of 666 (by decide +kernel) (by decide +kernel)
theorem kw_667 : Cond.code y_M_det c_M_det 15 (some .long) ∈ gt_ws := gt_of 667 (by decide +kernel) (by decide +kernel)
theorem kw_668 : Cond.constantLong RQ_M 114 (2147483647) ∈ gt_ws := gt_of 668 (by decide +kernel) (by decide +kernel)
theorem kw_669 : Cond.constantLong RQ_M 116 (2147483629) ∈ gt_ws := gt_of 669 (by decide +kernel) (by decide +kernel)
theorem kw_670 : Cond.methodLink RQ_M 118 y_M_modulo ∈ gt_ws := gt_of 670 (by decide +kernel) (by decide +kernel)
theorem kw_672 : Cond.instanceMethod y_M_modulo ∈ gt_ws := gt_of 672 (by decide +kernel) (by decide +kernel)
theorem kw_673 : Cond.code y_M_modulo c_M_modulo 10 (some .long) ∈ gt_ws := gt_of 673 (by decide +kernel) (by decide +kernel)
theorem kw_674 : Cond.methodLink RQ_M 100 y_M_exchange ∈ gt_ws := gt_of 674 (by decide +kernel) (by decide +kernel)
theorem kw_676 : Cond.instanceMethod y_M_exchange ∈ gt_ws := gt_of 676 (by decide +kernel) (by decide +kernel)
theorem kw_677 : Cond.code y_M_exchange c_M_exchange 6 none ∈ gt_ws := gt_of 677 (by decide +kernel) (by decide +kernel)
theorem kw_678 : Cond.methodLink RQ_M 104 y_M_clear ∈ gt_ws := gt_of 678 (by decide +kernel) (by decide +kernel)
theorem kw_680 : Cond.instanceMethod y_M_clear ∈ gt_ws := gt_of 680 (by decide +kernel) (by decide +kernel)
theorem kw_681 : Cond.code y_M_clear c_M_clear 11 none ∈ gt_ws := gt_of 681 (by decide +kernel) (by decide +kernel)
theorem kw_682 : Cond.constantLong RQ_M 108 (2) ∈ gt_ws := gt_of 682 (by decide +kernel) (by decide +kernel)
theorem kw_683 : Cond.methodLink RQ_M 110 y_M_powered ∈ gt_ws := gt_of 683 (by decide +kernel) (by decide +kernel)
theorem kw_685 : Cond.instanceMethod y_M_powered ∈ gt_ws := gt_of 685 (by decide +kernel) (by decide +kernel)
theorem kw_686 : Cond.code y_M_powered c_M_powered 10 (some .long) ∈ gt_ws := gt_of 686 (by decide +kernel) (by decide +kernel)
theorem kw_695 : Cond.constantLong RQ_M 148 (-4000000000000000000) ∈ gt_ws := gt_of 695 (by decide +kernel) (by decide +kernel)
theorem kw_696 : Cond.methodLink RQ_M 150 y_M_combined ∈ gt_ws := gt_of 696 (by decide +kernel) (by decide +kernel)
theorem kw_697 : Cond.instanceMethod y_M_combined ∈ gt_ws := gt_of 697 (by decide +kernel) (by decide +kernel)
theorem kw_698 : Cond.selects RQ_M y_M_combined y_M_combined ∈ gt_ws := gt_of 698 (by decide +kernel) (by decide +kernel)
theorem kw_699 : Cond.code y_M_combined c_M_combined 5 (some .long) ∈ gt_ws := gt_of 699 (by decide +kernel) (by decide +kernel)
theorem kw_700 : Cond.methodLink RQ_M 154 y_M_moved ∈ gt_ws := gt_of 700 (by decide +kernel) (by decide +kernel)
theorem kw_702 : Cond.instanceMethod y_M_moved ∈ gt_ws := gt_of 702 (by decide +kernel) (by decide +kernel)
theorem kw_703 : Cond.code y_M_moved c_M_moved 6 (some .long) ∈ gt_ws := gt_of 703 (by decide +kernel) (by decide +kernel)
theorem kw_704 : Cond.methodLink RQ_M 135 y_M_loadOf ∈ gt_ws := gt_of 704 (by decide +kernel) (by decide +kernel)
theorem kw_706 : Cond.instanceMethod y_M_loadOf ∈ gt_ws := gt_of 706 (by decide +kernel) (by decide +kernel)
theorem kw_707 : Cond.code y_M_loadOf c_M_loadOf 6 (some .long) ∈ gt_ws := gt_of 707 (by decide +kernel) (by decide +kernel)
theorem kw_708 : Cond.methodLink RQ_M 138 y_M_fixedOf ∈ gt_ws := gt_of 708 (by decide +kernel) (by decide +kernel)
theorem kw_710 : Cond.instanceMethod y_M_fixedOf ∈ gt_ws := gt_of 710 (by decide +kernel) (by decide +kernel)
theorem kw_711 : Cond.code y_M_fixedOf c_M_fixedOf 6 (some .long) ∈ gt_ws := gt_of 711 (by decide +kernel) (by decide +kernel)
theorem kw_712 : Cond.methodLink RQ_M 157 y_M_determinant ∈ gt_ws := gt_of 712 (by decide +kernel) (by decide +kernel)
theorem kw_713 : Cond.instanceMethod y_M_determinant ∈ gt_ws := gt_of 713 (by decide +kernel) (by decide +kernel)
theorem kw_714 : Cond.selects RQ_M y_M_determinant y_M_determinant ∈ gt_ws := gt_of 714 (by decide +kernel) (by decide +kernel)
theorem kw_715 : Cond.code y_M_determinant c_M_determinant 1 (some .long) ∈ gt_ws := gt_of 715 (by decide +kernel) (by decide +kernel)
theorem kw_716 : Cond.methodLink RQ_M 161 y_M_fraction ∈ gt_ws := gt_of 716 (by decide +kernel) (by decide +kernel)
theorem kw_718 : Cond.instanceMethod y_M_fraction ∈ gt_ws := gt_of 718 (by decide +kernel) (by decide +kernel)
theorem kw_719 : Cond.code y_M_fraction c_M_fraction 8 (some .long) ∈ gt_ws := gt_of 719 (by decide +kernel) (by decide +kernel)
theorem kw_725 : Cond.methodLink RQ_M 165 y_M_pull ∈ gt_ws := gt_of 725 (by decide +kernel) (by decide +kernel)
theorem kw_727 : Cond.instanceMethod y_M_pull ∈ gt_ws := gt_of 727 (by decide +kernel) (by decide +kernel)
theorem kw_728 : Cond.code y_M_pull c_M_pull 6 (some .long) ∈ gt_ws := gt_of 728 (by decide +kernel) (by decide +kernel)
theorem kw_746 : Cond.methodLink RQ_M 168 y_M_profile ∈ gt_ws := gt_of 746 (by decide +kernel) (by decide +kernel)
theorem kw_748 : Cond.instanceMethod y_M_profile ∈ gt_ws := gt_of 748 (by decide +kernel) (by decide +kernel)
theorem kw_749 : Cond.code y_M_profile c_M_profile 5 (some .int) ∈ gt_ws := gt_of 749 (by decide +kernel) (by decide +kernel)
theorem q_S_isNode : y_S_isNode.cls ≠ "java/lang/invoke/MethodHandle" ∧ y_S_isNode.cls ≠ "java/lang/invoke/VarHandle" ∧ (parseMethodDescriptor y_S_isNode.desc).map (fun d => d.parameters.length) = some 1 := by decide +kernel
theorem q_S_isOnGrid : y_S_isOnGrid.cls ≠ "java/lang/invoke/MethodHandle" ∧ y_S_isOnGrid.cls ≠ "java/lang/invoke/VarHandle" ∧ (parseMethodDescriptor y_S_isOnGrid.desc).map (fun d => d.parameters.length) = some 1 := by decide +kernel
theorem q_T_isThere : y_T_isThere.cls ≠ "java/lang/invoke/MethodHandle" ∧ y_T_isThere.cls ≠ "java/lang/invoke/VarHandle" ∧ (parseMethodDescriptor y_T_isThere.desc).map (fun d => d.parameters.length) = some 1 := by decide +kernel
theorem q_S_slotOf : y_S_slotOf.cls ≠ "java/lang/invoke/MethodHandle" ∧ y_S_slotOf.cls ≠ "java/lang/invoke/VarHandle" ∧ (parseMethodDescriptor y_S_slotOf.desc).map (fun d => d.parameters.length) = some 2 := by decide +kernel
theorem q_T_hasOtherAt : y_T_hasOtherAt.cls ≠ "java/lang/invoke/MethodHandle" ∧ y_T_hasOtherAt.cls ≠ "java/lang/invoke/VarHandle" ∧ (parseMethodDescriptor y_T_hasOtherAt.desc).map (fun d => d.parameters.length) = some 3 := by decide +kernel
theorem q_T_putNode : y_T_putNode.cls ≠ "java/lang/invoke/MethodHandle" ∧ y_T_putNode.cls ≠ "java/lang/invoke/VarHandle" ∧ (parseMethodDescriptor y_T_putNode.desc).map (fun d => d.parameters.length) = some 3 := by decide +kernel
theorem q_S_node : y_S_node.cls ≠ "java/lang/invoke/MethodHandle" ∧ y_S_node.cls ≠ "java/lang/invoke/VarHandle" ∧ (parseMethodDescriptor y_S_node.desc).map (fun d => d.parameters.length) = some 3 := by decide +kernel
theorem q_T_addBar : y_T_addBar.cls ≠ "java/lang/invoke/MethodHandle" ∧ y_T_addBar.cls ≠ "java/lang/invoke/VarHandle" ∧ (parseMethodDescriptor y_T_addBar.desc).map (fun d => d.parameters.length) = some 3 := by decide +kernel
theorem q_S_bar : y_S_bar.cls ≠ "java/lang/invoke/MethodHandle" ∧ y_S_bar.cls ≠ "java/lang/invoke/VarHandle" ∧ (parseMethodDescriptor y_S_bar.desc).map (fun d => d.parameters.length) = some 3 := by decide +kernel
theorem q_S_isBarThere : y_S_isBarThere.cls ≠ "java/lang/invoke/MethodHandle" ∧ y_S_isBarThere.cls ≠ "java/lang/invoke/VarHandle" ∧ (parseMethodDescriptor y_S_isBarThere.desc).map (fun d => d.parameters.length) = some 1 := by decide +kernel
theorem q_T_removeBar : y_T_removeBar.cls ≠ "java/lang/invoke/MethodHandle" ∧ y_T_removeBar.cls ≠ "java/lang/invoke/VarHandle" ∧ (parseMethodDescriptor y_T_removeBar.desc).map (fun d => d.parameters.length) = some 1 := by decide +kernel
theorem q_S_unbar : y_S_unbar.cls ≠ "java/lang/invoke/MethodHandle" ∧ y_S_unbar.cls ≠ "java/lang/invoke/VarHandle" ∧ (parseMethodDescriptor y_S_unbar.desc).map (fun d => d.parameters.length) = some 1 := by decide +kernel
theorem q_S_isDirection : y_S_isDirection.cls ≠ "java/lang/invoke/MethodHandle" ∧ y_S_isDirection.cls ≠ "java/lang/invoke/VarHandle" ∧ (parseMethodDescriptor y_S_isDirection.desc).map (fun d => d.parameters.length) = some 1 := by decide +kernel
theorem q_S_hold : y_S_hold.cls ≠ "java/lang/invoke/MethodHandle" ∧ y_S_hold.cls ≠ "java/lang/invoke/VarHandle" ∧ (parseMethodDescriptor y_S_hold.desc).map (fun d => d.parameters.length) = some 4 := by decide +kernel
theorem q_S_spring : y_S_spring.cls ≠ "java/lang/invoke/MethodHandle" ∧ y_S_spring.cls ≠ "java/lang/invoke/VarHandle" ∧ (parseMethodDescriptor y_S_spring.desc).map (fun d => d.parameters.length) = some 3 := by decide +kernel
theorem q_S_isCase : y_S_isCase.cls ≠ "java/lang/invoke/MethodHandle" ∧ y_S_isCase.cls ≠ "java/lang/invoke/VarHandle" ∧ (parseMethodDescriptor y_S_isCase.desc).map (fun d => d.parameters.length) = some 1 := by decide +kernel
theorem q_S_load : y_S_load.cls ≠ "java/lang/invoke/MethodHandle" ∧ y_S_load.cls ≠ "java/lang/invoke/VarHandle" ∧ (parseMethodDescriptor y_S_load.desc).map (fun d => d.parameters.length) = some 4 := by decide +kernel
theorem q_J_bitCount : y_J_bitCount.cls ≠ "java/lang/invoke/MethodHandle" ∧ y_J_bitCount.cls ≠ "java/lang/invoke/VarHandle" ∧ (parseMethodDescriptor y_J_bitCount.desc).map (fun d => d.parameters.length) = some 1 := by decide +kernel
theorem q_T_nodeCount : y_T_nodeCount.cls ≠ "java/lang/invoke/MethodHandle" ∧ y_T_nodeCount.cls ≠ "java/lang/invoke/VarHandle" ∧ (parseMethodDescriptor y_T_nodeCount.desc).map (fun d => d.parameters.length) = some 0 := by decide +kernel
theorem q_T_reach : y_T_reach.cls ≠ "java/lang/invoke/MethodHandle" ∧ y_T_reach.cls ≠ "java/lang/invoke/VarHandle" ∧ (parseMethodDescriptor y_T_reach.desc).map (fun d => d.parameters.length) = some 2 := by decide +kernel
theorem q_T_isGood : y_T_isGood.cls ≠ "java/lang/invoke/MethodHandle" ∧ y_T_isGood.cls ≠ "java/lang/invoke/VarHandle" ∧ (parseMethodDescriptor y_T_isGood.desc).map (fun d => d.parameters.length) = some 1 := by decide +kernel
theorem q_T_firstBadBar : y_T_firstBadBar.cls ≠ "java/lang/invoke/MethodHandle" ∧ y_T_firstBadBar.cls ≠ "java/lang/invoke/VarHandle" ∧ (parseMethodDescriptor y_T_firstBadBar.desc).map (fun d => d.parameters.length) = some 0 := by decide +kernel
theorem q_J_fillI : y_J_fillI.cls ≠ "java/lang/invoke/MethodHandle" ∧ y_J_fillI.cls ≠ "java/lang/invoke/VarHandle" ∧ (parseMethodDescriptor y_J_fillI.desc).map (fun d => d.parameters.length) = some 2 := by decide +kernel
theorem q_N_findNeighbours : y_N_findNeighbours.cls ≠ "java/lang/invoke/MethodHandle" ∧ y_N_findNeighbours.cls ≠ "java/lang/invoke/VarHandle" ∧ (parseMethodDescriptor y_N_findNeighbours.desc).map (fun d => d.parameters.length) = some 1 := by decide +kernel
theorem q_N_leastJoined : y_N_leastJoined.cls ≠ "java/lang/invoke/MethodHandle" ∧ y_N_leastJoined.cls ≠ "java/lang/invoke/VarHandle" ∧ (parseMethodDescriptor y_N_leastJoined.desc).map (fun d => d.parameters.length) = some 1 := by decide +kernel
theorem q_N_append : y_N_append.cls ≠ "java/lang/invoke/MethodHandle" ∧ y_N_append.cls ≠ "java/lang/invoke/VarHandle" ∧ (parseMethodDescriptor y_N_append.desc).map (fun d => d.parameters.length) = some 1 := by decide +kernel
theorem q_N_appendNeighboursOf : y_N_appendNeighboursOf.cls ≠ "java/lang/invoke/MethodHandle" ∧ y_N_appendNeighboursOf.cls ≠ "java/lang/invoke/VarHandle" ∧ (parseMethodDescriptor y_N_appendNeighboursOf.desc).map (fun d => d.parameters.length) = some 1 := by decide +kernel
theorem q_N_placeNodes : y_N_placeNodes.cls ≠ "java/lang/invoke/MethodHandle" ∧ y_N_placeNodes.cls ≠ "java/lang/invoke/VarHandle" ∧ (parseMethodDescriptor y_N_placeNodes.desc).map (fun d => d.parameters.length) = some 1 := by decide +kernel
theorem q_N_turnRound : y_N_turnRound.cls ≠ "java/lang/invoke/MethodHandle" ∧ y_N_turnRound.cls ≠ "java/lang/invoke/VarHandle" ∧ (parseMethodDescriptor y_N_turnRound.desc).map (fun d => d.parameters.length) = some 0 := by decide +kernel
theorem q_N_numberSlot : y_N_numberSlot.cls ≠ "java/lang/invoke/MethodHandle" ∧ y_N_numberSlot.cls ≠ "java/lang/invoke/VarHandle" ∧ (parseMethodDescriptor y_N_numberSlot.desc).map (fun d => d.parameters.length) = some 2 := by decide +kernel
theorem q_N_numberSlots : y_N_numberSlots.cls ≠ "java/lang/invoke/MethodHandle" ∧ y_N_numberSlots.cls ≠ "java/lang/invoke/VarHandle" ∧ (parseMethodDescriptor y_N_numberSlots.desc).map (fun d => d.parameters.length) = some 1 := by decide +kernel
theorem q_N_make : y_N_make.cls ≠ "java/lang/invoke/MethodHandle" ∧ y_N_make.cls ≠ "java/lang/invoke/VarHandle" ∧ (parseMethodDescriptor y_N_make.desc).map (fun d => d.parameters.length) = some 1 := by decide +kernel
theorem q_T_signOf : y_T_signOf.cls ≠ "java/lang/invoke/MethodHandle" ∧ y_T_signOf.cls ≠ "java/lang/invoke/VarHandle" ∧ (parseMethodDescriptor y_T_signOf.desc).map (fun d => d.parameters.length) = some 1 := by decide +kernel
theorem q_T_stretchBy : y_T_stretchBy.cls ≠ "java/lang/invoke/MethodHandle" ∧ y_T_stretchBy.cls ≠ "java/lang/invoke/VarHandle" ∧ (parseMethodDescriptor y_T_stretchBy.desc).map (fun d => d.parameters.length) = some 2 := by decide +kernel
theorem q_E_addStiffnessOfBar : y_E_addStiffnessOfBar.cls ≠ "java/lang/invoke/MethodHandle" ∧ y_E_addStiffnessOfBar.cls ≠ "java/lang/invoke/VarHandle" ∧ (parseMethodDescriptor y_E_addStiffnessOfBar.desc).map (fun d => d.parameters.length) = some 2 := by decide +kernel
theorem q_J_fillL : y_J_fillL.cls ≠ "java/lang/invoke/MethodHandle" ∧ y_J_fillL.cls ≠ "java/lang/invoke/VarHandle" ∧ (parseMethodDescriptor y_J_fillL.desc).map (fun d => d.parameters.length) = some 2 := by decide +kernel
theorem q_E_sumUpStiffness : y_E_sumUpStiffness.cls ≠ "java/lang/invoke/MethodHandle" ∧ y_E_sumUpStiffness.cls ≠ "java/lang/invoke/VarHandle" ∧ (parseMethodDescriptor y_E_sumUpStiffness.desc).map (fun d => d.parameters.length) = some 1 := by decide +kernel
theorem q_E_make : y_E_make.cls ≠ "java/lang/invoke/MethodHandle" ∧ y_E_make.cls ≠ "java/lang/invoke/VarHandle" ∧ (parseMethodDescriptor y_E_make.desc).map (fun d => d.parameters.length) = some 2 := by decide +kernel
theorem q_E_rowTimes : y_E_rowTimes.cls ≠ "java/lang/invoke/MethodHandle" ∧ y_E_rowTimes.cls ≠ "java/lang/invoke/VarHandle" ∧ (parseMethodDescriptor y_E_rowTimes.desc).map (fun d => d.parameters.length) = some 3 := by decide +kernel
theorem q_E_multiply : y_E_multiply.cls ≠ "java/lang/invoke/MethodHandle" ∧ y_E_multiply.cls ≠ "java/lang/invoke/VarHandle" ∧ (parseMethodDescriptor y_E_multiply.desc).map (fun d => d.parameters.length) = some 2 := by decide +kernel
theorem q_E_findGrowth : y_E_findGrowth.cls ≠ "java/lang/invoke/MethodHandle" ∧ y_E_findGrowth.cls ≠ "java/lang/invoke/VarHandle" ∧ (parseMethodDescriptor y_E_findGrowth.desc).map (fun d => d.parameters.length) = some 1 := by decide +kernel
theorem q_E_growPolynomial : y_E_growPolynomial.cls ≠ "java/lang/invoke/MethodHandle" ∧ y_E_growPolynomial.cls ≠ "java/lang/invoke/VarHandle" ∧ (parseMethodDescriptor y_E_growPolynomial.desc).map (fun d => d.parameters.length) = some 1 := by decide +kernel
theorem q_E_findWeakUnknown : y_E_findWeakUnknown.cls ≠ "java/lang/invoke/MethodHandle" ∧ y_E_findWeakUnknown.cls ≠ "java/lang/invoke/VarHandle" ∧ (parseMethodDescriptor y_E_findWeakUnknown.desc).map (fun d => d.parameters.length) = some 0 := by decide +kernel
theorem q_S_solve : y_S_solve.cls ≠ "java/lang/invoke/MethodHandle" ∧ y_S_solve.cls ≠ "java/lang/invoke/VarHandle" ∧ (parseMethodDescriptor y_S_solve.desc).map (fun d => d.parameters.length) = some 0 := by decide +kernel
theorem q_S_open : y_S_open.cls ≠ "java/lang/invoke/MethodHandle" ∧ y_S_open.cls ≠ "java/lang/invoke/VarHandle" ∧ (parseMethodDescriptor y_S_open.desc).map (fun d => d.parameters.length) = some 0 := by decide +kernel
theorem q_S_isNodeThere : y_S_isNodeThere.cls ≠ "java/lang/invoke/MethodHandle" ∧ y_S_isNodeThere.cls ≠ "java/lang/invoke/VarHandle" ∧ (parseMethodDescriptor y_S_isNodeThere.desc).map (fun d => d.parameters.length) = some 1 := by decide +kernel
theorem q_S_isPart : y_S_isPart.cls ≠ "java/lang/invoke/MethodHandle" ∧ y_S_isPart.cls ≠ "java/lang/invoke/VarHandle" ∧ (parseMethodDescriptor y_S_isPart.desc).map (fun d => d.parameters.length) = some 1 := by decide +kernel
theorem q_S_isAnswerable : y_S_isAnswerable.cls ≠ "java/lang/invoke/MethodHandle" ∧ y_S_isAnswerable.cls ≠ "java/lang/invoke/VarHandle" ∧ (parseMethodDescriptor y_S_isAnswerable.desc).map (fun d => d.parameters.length) = some 3 := by decide +kernel
theorem q_R_chooseCase : y_R_chooseCase.cls ≠ "java/lang/invoke/MethodHandle" ∧ y_R_chooseCase.cls ≠ "java/lang/invoke/VarHandle" ∧ (parseMethodDescriptor y_R_chooseCase.desc).map (fun d => d.parameters.length) = some 1 := by decide +kernel
theorem q_E_wholeMinor : y_E_wholeMinor.cls ≠ "java/lang/invoke/MethodHandle" ∧ y_E_wholeMinor.cls ≠ "java/lang/invoke/VarHandle" ∧ (parseMethodDescriptor y_E_wholeMinor.desc).map (fun d => d.parameters.length) = some 0 := by decide +kernel
theorem q_R_sumUpLoads : y_R_sumUpLoads.cls ≠ "java/lang/invoke/MethodHandle" ∧ y_R_sumUpLoads.cls ≠ "java/lang/invoke/VarHandle" ∧ (parseMethodDescriptor y_R_sumUpLoads.desc).map (fun d => d.parameters.length) = some 1 := by decide +kernel
theorem q_R_heldDisplacement : y_R_heldDisplacement.cls ≠ "java/lang/invoke/MethodHandle" ∧ y_R_heldDisplacement.cls ≠ "java/lang/invoke/VarHandle" ∧ (parseMethodDescriptor y_R_heldDisplacement.desc).map (fun d => d.parameters.length) = some 2 := by decide +kernel
theorem q_R_moveHeldSlots : y_R_moveHeldSlots.cls ≠ "java/lang/invoke/MethodHandle" ∧ y_R_moveHeldSlots.cls ≠ "java/lang/invoke/VarHandle" ∧ (parseMethodDescriptor y_R_moveHeldSlots.desc).map (fun d => d.parameters.length) = some 1 := by decide +kernel
theorem q_R_findRightSide : y_R_findRightSide.cls ≠ "java/lang/invoke/MethodHandle" ∧ y_R_findRightSide.cls ≠ "java/lang/invoke/VarHandle" ∧ (parseMethodDescriptor y_R_findRightSide.desc).map (fun d => d.parameters.length) = some 3 := by decide +kernel
theorem q_E_solveScaled : y_E_solveScaled.cls ≠ "java/lang/invoke/MethodHandle" ∧ y_E_solveScaled.cls ≠ "java/lang/invoke/VarHandle" ∧ (parseMethodDescriptor y_E_solveScaled.desc).map (fun d => d.parameters.length) = some 2 := by decide +kernel
theorem q_R_respond : y_R_respond.cls ≠ "java/lang/invoke/MethodHandle" ∧ y_R_respond.cls ≠ "java/lang/invoke/VarHandle" ∧ (parseMethodDescriptor y_R_respond.desc).map (fun d => d.parameters.length) = some 3 := by decide +kernel
theorem q_S_greatestDivisor : y_S_greatestDivisor.cls ≠ "java/lang/invoke/MethodHandle" ∧ y_S_greatestDivisor.cls ≠ "java/lang/invoke/VarHandle" ∧ (parseMethodDescriptor y_S_greatestDivisor.desc).map (fun d => d.parameters.length) = some 2 := by decide +kernel
theorem q_S_partOfFraction : y_S_partOfFraction.cls ≠ "java/lang/invoke/MethodHandle" ∧ y_S_partOfFraction.cls ≠ "java/lang/invoke/VarHandle" ∧ (parseMethodDescriptor y_S_partOfFraction.desc).map (fun d => d.parameters.length) = some 2 := by decide +kernel
theorem q_S_displacement : y_S_displacement.cls ≠ "java/lang/invoke/MethodHandle" ∧ y_S_displacement.cls ≠ "java/lang/invoke/VarHandle" ∧ (parseMethodDescriptor y_S_displacement.desc).map (fun d => d.parameters.length) = some 4 := by decide +kernel
theorem q_R_forceNumerator : y_R_forceNumerator.cls ≠ "java/lang/invoke/MethodHandle" ∧ y_R_forceNumerator.cls ≠ "java/lang/invoke/VarHandle" ∧ (parseMethodDescriptor y_R_forceNumerator.desc).map (fun d => d.parameters.length) = some 2 := by decide +kernel
theorem q_S_force : y_S_force.cls ≠ "java/lang/invoke/MethodHandle" ∧ y_S_force.cls ≠ "java/lang/invoke/VarHandle" ∧ (parseMethodDescriptor y_S_force.desc).map (fun d => d.parameters.length) = some 3 := by decide +kernel
theorem q_R_reactionNumerator : y_R_reactionNumerator.cls ≠ "java/lang/invoke/MethodHandle" ∧ y_R_reactionNumerator.cls ≠ "java/lang/invoke/VarHandle" ∧ (parseMethodDescriptor y_R_reactionNumerator.desc).map (fun d => d.parameters.length) = some 2 := by decide +kernel
theorem q_S_reaction : y_S_reaction.cls ≠ "java/lang/invoke/MethodHandle" ∧ y_S_reaction.cls ≠ "java/lang/invoke/VarHandle" ∧ (parseMethodDescriptor y_S_reaction.desc).map (fun d => d.parameters.length) = some 4 := by decide +kernel
theorem q_R_chooseFactors : y_R_chooseFactors.cls ≠ "java/lang/invoke/MethodHandle" ∧ y_R_chooseFactors.cls ≠ "java/lang/invoke/VarHandle" ∧ (parseMethodDescriptor y_R_chooseFactors.desc).map (fun d => d.parameters.length) = some 1 := by decide +kernel
theorem q_S_combined : y_S_combined.cls ≠ "java/lang/invoke/MethodHandle" ∧ y_S_combined.cls ≠ "java/lang/invoke/VarHandle" ∧ (parseMethodDescriptor y_S_combined.desc).map (fun d => d.parameters.length) = some 4 := by decide +kernel
theorem q_S_determinant : y_S_determinant.cls ≠ "java/lang/invoke/MethodHandle" ∧ y_S_determinant.cls ≠ "java/lang/invoke/VarHandle" ∧ (parseMethodDescriptor y_S_determinant.desc).map (fun d => d.parameters.length) = some 0 := by decide +kernel
theorem q_S_order : y_S_order.cls ≠ "java/lang/invoke/MethodHandle" ∧ y_S_order.cls ≠ "java/lang/invoke/VarHandle" ∧ (parseMethodDescriptor y_S_order.desc).map (fun d => d.parameters.length) = some 1 := by decide +kernel
theorem q_S_unknown : y_S_unknown.cls ≠ "java/lang/invoke/MethodHandle" ∧ y_S_unknown.cls ≠ "java/lang/invoke/VarHandle" ∧ (parseMethodDescriptor y_S_unknown.desc).map (fun d => d.parameters.length) = some 2 := by decide +kernel
theorem q_E_profile : y_E_profile.cls ≠ "java/lang/invoke/MethodHandle" ∧ y_E_profile.cls ≠ "java/lang/invoke/VarHandle" ∧ (parseMethodDescriptor y_E_profile.desc).map (fun d => d.parameters.length) = some 0 := by decide +kernel
theorem q_S_count : y_S_count.cls ≠ "java/lang/invoke/MethodHandle" ∧ y_S_count.cls ≠ "java/lang/invoke/VarHandle" ∧ (parseMethodDescriptor y_S_count.desc).map (fun d => d.parameters.length) = some 1 := by decide +kernel
theorem q_M_off : y_M_off.cls ≠ "java/lang/invoke/MethodHandle" ∧ y_M_off.cls ≠ "java/lang/invoke/VarHandle" ∧ (parseMethodDescriptor y_M_off.desc).map (fun d => d.parameters.length) = some 2 := by decide +kernel
theorem q_M_node : y_M_node.cls ≠ "java/lang/invoke/MethodHandle" ∧ y_M_node.cls ≠ "java/lang/invoke/VarHandle" ∧ (parseMethodDescriptor y_M_node.desc).map (fun d => d.parameters.length) = some 3 := by decide +kernel
theorem q_M_bar : y_M_bar.cls ≠ "java/lang/invoke/MethodHandle" ∧ y_M_bar.cls ≠ "java/lang/invoke/VarHandle" ∧ (parseMethodDescriptor y_M_bar.desc).map (fun d => d.parameters.length) = some 3 := by decide +kernel
theorem q_M_unbar : y_M_unbar.cls ≠ "java/lang/invoke/MethodHandle" ∧ y_M_unbar.cls ≠ "java/lang/invoke/VarHandle" ∧ (parseMethodDescriptor y_M_unbar.desc).map (fun d => d.parameters.length) = some 1 := by decide +kernel
theorem q_M_hold : y_M_hold.cls ≠ "java/lang/invoke/MethodHandle" ∧ y_M_hold.cls ≠ "java/lang/invoke/VarHandle" ∧ (parseMethodDescriptor y_M_hold.desc).map (fun d => d.parameters.length) = some 4 := by decide +kernel
theorem q_M_spring : y_M_spring.cls ≠ "java/lang/invoke/MethodHandle" ∧ y_M_spring.cls ≠ "java/lang/invoke/VarHandle" ∧ (parseMethodDescriptor y_M_spring.desc).map (fun d => d.parameters.length) = some 3 := by decide +kernel
theorem q_M_load : y_M_load.cls ≠ "java/lang/invoke/MethodHandle" ∧ y_M_load.cls ≠ "java/lang/invoke/VarHandle" ∧ (parseMethodDescriptor y_M_load.desc).map (fun d => d.parameters.length) = some 4 := by decide +kernel
theorem q_M_good : y_M_good.cls ≠ "java/lang/invoke/MethodHandle" ∧ y_M_good.cls ≠ "java/lang/invoke/VarHandle" ∧ (parseMethodDescriptor y_M_good.desc).map (fun d => d.parameters.length) = some 1 := by decide +kernel
theorem q_M_exchange : y_M_exchange.cls ≠ "java/lang/invoke/MethodHandle" ∧ y_M_exchange.cls ≠ "java/lang/invoke/VarHandle" ∧ (parseMethodDescriptor y_M_exchange.desc).map (fun d => d.parameters.length) = some 2 := by decide +kernel
theorem q_M_powered : y_M_powered.cls ≠ "java/lang/invoke/MethodHandle" ∧ y_M_powered.cls ≠ "java/lang/invoke/VarHandle" ∧ (parseMethodDescriptor y_M_powered.desc).map (fun d => d.parameters.length) = some 3 := by decide +kernel
theorem q_M_clear : y_M_clear.cls ≠ "java/lang/invoke/MethodHandle" ∧ y_M_clear.cls ≠ "java/lang/invoke/VarHandle" ∧ (parseMethodDescriptor y_M_clear.desc).map (fun d => d.parameters.length) = some 3 := by decide +kernel
theorem q_M_modulo : y_M_modulo.cls ≠ "java/lang/invoke/MethodHandle" ∧ y_M_modulo.cls ≠ "java/lang/invoke/VarHandle" ∧ (parseMethodDescriptor y_M_modulo.desc).map (fun d => d.parameters.length) = some 3 := by decide +kernel
theorem q_M_det : y_M_det.cls ≠ "java/lang/invoke/MethodHandle" ∧ y_M_det.cls ≠ "java/lang/invoke/VarHandle" ∧ (parseMethodDescriptor y_M_det.desc).map (fun d => d.parameters.length) = some 2 := by decide +kernel
theorem q_M_inOrder : y_M_inOrder.cls ≠ "java/lang/invoke/MethodHandle" ∧ y_M_inOrder.cls ≠ "java/lang/invoke/VarHandle" ∧ (parseMethodDescriptor y_M_inOrder.desc).map (fun d => d.parameters.length) = some 1 := by decide +kernel
theorem q_M_joined : y_M_joined.cls ≠ "java/lang/invoke/MethodHandle" ∧ y_M_joined.cls ≠ "java/lang/invoke/VarHandle" ∧ (parseMethodDescriptor y_M_joined.desc).map (fun d => d.parameters.length) = some 2 := by decide +kernel
theorem q_M_neighbours : y_M_neighbours.cls ≠ "java/lang/invoke/MethodHandle" ∧ y_M_neighbours.cls ≠ "java/lang/invoke/VarHandle" ∧ (parseMethodDescriptor y_M_neighbours.desc).map (fun d => d.parameters.length) = some 1 := by decide +kernel
theorem q_M_candidate : y_M_candidate.cls ≠ "java/lang/invoke/MethodHandle" ∧ y_M_candidate.cls ≠ "java/lang/invoke/VarHandle" ∧ (parseMethodDescriptor y_M_candidate.desc).map (fun d => d.parameters.length) = some 1 := by decide +kernel
theorem q_M_append : y_M_append.cls ≠ "java/lang/invoke/MethodHandle" ∧ y_M_append.cls ≠ "java/lang/invoke/VarHandle" ∧ (parseMethodDescriptor y_M_append.desc).map (fun d => d.parameters.length) = some 1 := by decide +kernel
theorem q_M_makeOrder : y_M_makeOrder.cls ≠ "java/lang/invoke/MethodHandle" ∧ y_M_makeOrder.cls ≠ "java/lang/invoke/VarHandle" ∧ (parseMethodDescriptor y_M_makeOrder.desc).map (fun d => d.parameters.length) = some 0 := by decide +kernel
theorem q_M_sign : y_M_sign.cls ≠ "java/lang/invoke/MethodHandle" ∧ y_M_sign.cls ≠ "java/lang/invoke/VarHandle" ∧ (parseMethodDescriptor y_M_sign.desc).map (fun d => d.parameters.length) = some 1 := by decide +kernel
theorem q_M_way : y_M_way.cls ≠ "java/lang/invoke/MethodHandle" ∧ y_M_way.cls ≠ "java/lang/invoke/VarHandle" ∧ (parseMethodDescriptor y_M_way.desc).map (fun d => d.parameters.length) = some 2 := by decide +kernel
theorem q_M_makeMatrix : y_M_makeMatrix.cls ≠ "java/lang/invoke/MethodHandle" ∧ y_M_makeMatrix.cls ≠ "java/lang/invoke/VarHandle" ∧ (parseMethodDescriptor y_M_makeMatrix.desc).map (fun d => d.parameters.length) = some 0 := by decide +kernel
theorem q_M_solve : y_M_solve.cls ≠ "java/lang/invoke/MethodHandle" ∧ y_M_solve.cls ≠ "java/lang/invoke/VarHandle" ∧ (parseMethodDescriptor y_M_solve.desc).map (fun d => d.parameters.length) = some 0 := by decide +kernel
theorem q_M_open : y_M_open.cls ≠ "java/lang/invoke/MethodHandle" ∧ y_M_open.cls ≠ "java/lang/invoke/VarHandle" ∧ (parseMethodDescriptor y_M_open.desc).map (fun d => d.parameters.length) = some 0 := by decide +kernel
theorem q_M_fixedOf : y_M_fixedOf.cls ≠ "java/lang/invoke/MethodHandle" ∧ y_M_fixedOf.cls ≠ "java/lang/invoke/VarHandle" ∧ (parseMethodDescriptor y_M_fixedOf.desc).map (fun d => d.parameters.length) = some 2 := by decide +kernel
theorem q_M_loadOf : y_M_loadOf.cls ≠ "java/lang/invoke/MethodHandle" ∧ y_M_loadOf.cls ≠ "java/lang/invoke/VarHandle" ∧ (parseMethodDescriptor y_M_loadOf.desc).map (fun d => d.parameters.length) = some 2 := by decide +kernel
theorem q_M_moved : y_M_moved.cls ≠ "java/lang/invoke/MethodHandle" ∧ y_M_moved.cls ≠ "java/lang/invoke/VarHandle" ∧ (parseMethodDescriptor y_M_moved.desc).map (fun d => d.parameters.length) = some 2 := by decide +kernel
theorem q_M_determinant : y_M_determinant.cls ≠ "java/lang/invoke/MethodHandle" ∧ y_M_determinant.cls ≠ "java/lang/invoke/VarHandle" ∧ (parseMethodDescriptor y_M_determinant.desc).map (fun d => d.parameters.length) = some 0 := by decide +kernel
theorem q_M_fraction : y_M_fraction.cls ≠ "java/lang/invoke/MethodHandle" ∧ y_M_fraction.cls ≠ "java/lang/invoke/VarHandle" ∧ (parseMethodDescriptor y_M_fraction.desc).map (fun d => d.parameters.length) = some 3 := by decide +kernel
theorem q_M_combined : y_M_combined.cls ≠ "java/lang/invoke/MethodHandle" ∧ y_M_combined.cls ≠ "java/lang/invoke/VarHandle" ∧ (parseMethodDescriptor y_M_combined.desc).map (fun d => d.parameters.length) = some 4 := by decide +kernel
theorem q_M_displacement : y_M_displacement.cls ≠ "java/lang/invoke/MethodHandle" ∧ y_M_displacement.cls ≠ "java/lang/invoke/VarHandle" ∧ (parseMethodDescriptor y_M_displacement.desc).map (fun d => d.parameters.length) = some 4 := by decide +kernel
theorem q_M_pull : y_M_pull.cls ≠ "java/lang/invoke/MethodHandle" ∧ y_M_pull.cls ≠ "java/lang/invoke/VarHandle" ∧ (parseMethodDescriptor y_M_pull.desc).map (fun d => d.parameters.length) = some 2 := by decide +kernel
theorem q_M_force : y_M_force.cls ≠ "java/lang/invoke/MethodHandle" ∧ y_M_force.cls ≠ "java/lang/invoke/VarHandle" ∧ (parseMethodDescriptor y_M_force.desc).map (fun d => d.parameters.length) = some 3 := by decide +kernel
theorem q_M_reaction : y_M_reaction.cls ≠ "java/lang/invoke/MethodHandle" ∧ y_M_reaction.cls ≠ "java/lang/invoke/VarHandle" ∧ (parseMethodDescriptor y_M_reaction.desc).map (fun d => d.parameters.length) = some 4 := by decide +kernel
theorem q_M_order : y_M_order.cls ≠ "java/lang/invoke/MethodHandle" ∧ y_M_order.cls ≠ "java/lang/invoke/VarHandle" ∧ (parseMethodDescriptor y_M_order.desc).map (fun d => d.parameters.length) = some 1 := by decide +kernel
theorem q_M_unknown : y_M_unknown.cls ≠ "java/lang/invoke/MethodHandle" ∧ y_M_unknown.cls ≠ "java/lang/invoke/VarHandle" ∧ (parseMethodDescriptor y_M_unknown.desc).map (fun d => d.parameters.length) = some 2 := by decide +kernel
theorem q_M_profile : y_M_profile.cls ≠ "java/lang/invoke/MethodHandle" ∧ y_M_profile.cls ≠ "java/lang/invoke/VarHandle" ∧ (parseMethodDescriptor y_M_profile.desc).map (fun d => d.parameters.length) = some 0 := by decide +kernel
theorem q_M_count : y_M_count.cls ≠ "java/lang/invoke/MethodHandle" ∧ y_M_count.cls ≠ "java/lang/invoke/VarHandle" ∧ (parseMethodDescriptor y_M_count.desc).map (fun d => d.parameters.length) = some 1 := by decide +kernel
