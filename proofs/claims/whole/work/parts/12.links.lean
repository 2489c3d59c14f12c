theorem ki_Div : Cond.initialized R_Div ∈ lw_T := lw_T_of (List.mem_append_right _ (List.mem_of_getElem? (i := 8) (by decide +kernel))) rfl
theorem kc_Div_find : Cond.code y_Div_find b_Div_find 9 none ∈ lw_T := lw_T_of (List.mem_append_right _ (List.mem_of_getElem? (i := 151) (by decide +kernel))) rfl
theorem ks_Div_find : Cond.static y_Div_find ∈ lw_T := lw_T_of (List.mem_append_right _ (List.mem_of_getElem? (i := 150) (by decide +kernel))) rfl
theorem kf_Div_9 : Cond.fieldLink R_Div 9 "WholeMill$Whole" "length" "I" ∈ lw_T := lw_T_of (List.mem_append_right _ (List.mem_of_getElem? (i := 30) (by decide +kernel))) rfl
theorem km_Div_15 : Cond.methodLink R_Div 15 y_Math_max ∈ lw_T := lw_T_of (List.mem_append_right _ (List.mem_of_getElem? (i := 152) (by decide +kernel))) rfl
theorem km_Div_21 : Cond.methodLink R_Div 21 y_Whole_size ∈ lw_T := lw_T_of (List.mem_append_right _ (List.mem_of_getElem? (i := 153) (by decide +kernel))) rfl
theorem km_Div_25 : Cond.methodLink R_Div 25 y_Whole_becomeShiftedLeft ∈ lw_T := lw_T_of (List.mem_append_right _ (List.mem_of_getElem? (i := 154) (by decide +kernel))) rfl
theorem km_Div_29 : Cond.methodLink R_Div 29 y_Whole_clear ∈ lw_T := lw_T_of (List.mem_append_right _ (List.mem_of_getElem? (i := 155) (by decide +kernel))) rfl
theorem kf_Div_32 : Cond.fieldLink R_Div 32 "WholeMill$Whole" "words" "[I" ∈ lw_T := lw_T_of (List.mem_append_right _ (List.mem_of_getElem? (i := 27) (by decide +kernel))) rfl
theorem km_Div_36 : Cond.methodLink R_Div 36 y_Div_nextWord ∈ lw_T := lw_T_of (List.mem_append_right _ (List.mem_of_getElem? (i := 156) (by decide +kernel))) rfl
theorem km_Div_42 : Cond.methodLink R_Div 42 y_Whole_settle ∈ lw_T := lw_T_of (List.mem_append_right _ (List.mem_of_getElem? (i := 176) (by decide +kernel))) rfl
theorem km_Div_46 : Cond.methodLink R_Div 46 y_Whole_becomeShiftedRight ∈ lw_T := lw_T_of (List.mem_append_right _ (List.mem_of_getElem? (i := 177) (by decide +kernel))) rfl
theorem kc_Div_nextWord : Cond.code y_Div_nextWord b_Div_nextWord 11 (some .int) ∈ lw_T := lw_T_of (List.mem_append_right _ (List.mem_of_getElem? (i := 158) (by decide +kernel))) rfl
theorem ks_Div_nextWord : Cond.static y_Div_nextWord ∈ lw_T := lw_T_of (List.mem_append_right _ (List.mem_of_getElem? (i := 157) (by decide +kernel))) rfl
theorem km_Div_49 : Cond.methodLink R_Div 49 y_Rows_guess ∈ lw_T := lw_T_of (List.mem_append_right _ (List.mem_of_getElem? (i := 159) (by decide +kernel))) rfl
theorem kl_Div_55 : Cond.constantLong R_Div 55 (4294967295) ∈ lw_T := lw_T_of (List.mem_append_right _ (List.mem_of_getElem? (i := 169) (by decide +kernel))) rfl
theorem km_Div_57 : Cond.methodLink R_Div 57 y_Rows_takeMultiple ∈ lw_T := lw_T_of (List.mem_append_right _ (List.mem_of_getElem? (i := 170) (by decide +kernel))) rfl
theorem km_Div_61 : Cond.methodLink R_Div 61 y_Rows_addStretch ∈ lw_T := lw_T_of (List.mem_append_right _ (List.mem_of_getElem? (i := 173) (by decide +kernel))) rfl
theorem ki_Int : Cond.initialized R_Int ∈ lw_T := lw_T_of (List.mem_append_right _ (List.mem_of_getElem? (i := 4) (by decide +kernel))) rfl
theorem kc_Int_bitCount : Cond.code y_Int_bitCount b_Int_bitCount 1 (some .int) ∈ lw_T := lw_T_of (List.mem_append_right _ (List.mem_of_getElem? (i := 264) (by decide +kernel))) rfl
theorem ks_Int_bitCount : Cond.static y_Int_bitCount ∈ lw_T := lw_T_of (List.mem_append_right _ (List.mem_of_getElem? (i := 263) (by decide +kernel))) rfl
theorem kk_Int_265 : Cond.constant R_Int 265 (1431655765) ∈ lw_T := lw_T_of (List.mem_append_right _ (List.mem_of_getElem? (i := 265) (by decide +kernel))) rfl
theorem kk_Int_266 : Cond.constant R_Int 266 (858993459) ∈ lw_T := lw_T_of (List.mem_append_right _ (List.mem_of_getElem? (i := 266) (by decide +kernel))) rfl
theorem kk_Int_267 : Cond.constant R_Int 267 (252645135) ∈ lw_T := lw_T_of (List.mem_append_right _ (List.mem_of_getElem? (i := 267) (by decide +kernel))) rfl
theorem kc_Int_numberOfLeadingZeros : Cond.code y_Int_numberOfLeadingZeros b_Int_numberOfLeadingZeros 2 (some .int) ∈ lw_T := lw_T_of (List.mem_append_right _ (List.mem_of_getElem? (i := 65) (by decide +kernel))) rfl
theorem ks_Int_numberOfLeadingZeros : Cond.static y_Int_numberOfLeadingZeros ∈ lw_T := lw_T_of (List.mem_append_right _ (List.mem_of_getElem? (i := 64) (by decide +kernel))) rfl
theorem kk_Int_264 : Cond.constant R_Int 264 (65536) ∈ lw_T := lw_T_of (List.mem_append_right _ (List.mem_of_getElem? (i := 66) (by decide +kernel))) rfl
theorem kc_Int_numberOfTrailingZeros : Cond.code y_Int_numberOfTrailingZeros b_Int_numberOfTrailingZeros 2 (some .int) ∈ lw_T := lw_T_of (List.mem_append_right _ (List.mem_of_getElem? (i := 278) (by decide +kernel))) rfl
theorem ks_Int_numberOfTrailingZeros : Cond.static y_Int_numberOfTrailingZeros ∈ lw_T := lw_T_of (List.mem_append_right _ (List.mem_of_getElem? (i := 277) (by decide +kernel))) rfl
theorem ki_Math : Cond.initialized R_Math ∈ lw_T := lw_T_of (List.mem_append_right _ (List.mem_of_getElem? (i := 5) (by decide +kernel))) rfl
theorem kc_Math_abs : Cond.code y_Math_abs b_Math_abs 1 (some .int) ∈ lw_T := lw_T_of (List.mem_append_right _ (List.mem_of_getElem? (i := 228) (by decide +kernel))) rfl
theorem ks_Math_abs : Cond.static y_Math_abs ∈ lw_T := lw_T_of (List.mem_append_right _ (List.mem_of_getElem? (i := 227) (by decide +kernel))) rfl
theorem kc_Math_max : Cond.code y_Math_max b_Math_max 2 (some .int) ∈ lw_T := lw_T_of (List.mem_append_right _ (List.mem_of_getElem? (i := 87) (by decide +kernel))) rfl
theorem ks_Math_max : Cond.static y_Math_max ∈ lw_T := lw_T_of (List.mem_append_right _ (List.mem_of_getElem? (i := 86) (by decide +kernel))) rfl
theorem kc_Math_min : Cond.code y_Math_min b_Math_min 2 (some .int) ∈ lw_T := lw_T_of (List.mem_append_right _ (List.mem_of_getElem? (i := 236) (by decide +kernel))) rfl
theorem ks_Math_min : Cond.static y_Math_min ∈ lw_T := lw_T_of (List.mem_append_right _ (List.mem_of_getElem? (i := 235) (by decide +kernel))) rfl
theorem kc_Math_minL : Cond.code y_Math_minL b_Math_minL 4 (some .long) ∈ lw_T := lw_T_of (List.mem_append_right _ (List.mem_of_getElem? (i := 164) (by decide +kernel))) rfl
theorem ks_Math_minL : Cond.static y_Math_minL ∈ lw_T := lw_T_of (List.mem_append_right _ (List.mem_of_getElem? (i := 163) (by decide +kernel))) rfl
theorem ki_Mill : Cond.initialized R_Mill ∈ lw_T := lw_T_of (List.mem_append_right _ (List.mem_of_getElem? (i := 1) (by decide +kernel))) rfl
theorem kc_Mill_add : Cond.code y_Mill_add b_Mill_add 4 (some .boolean) ∈ lw_T := lw_T_of (List.mem_append_right _ (List.mem_of_getElem? (i := 115) (by decide +kernel))) rfl
theorem kn_Mill_add : Cond.instanceMethod y_Mill_add ∈ lw_T := lw_T_of (List.mem_append_right _ (List.mem_of_getElem? (i := 113) (by decide +kernel))) rfl
theorem ke_Mill_add : Cond.selects y_Mill_add.cls y_Mill_add y_Mill_add ∈ lw_T := lw_T_of (List.mem_append_right _ (List.mem_of_getElem? (i := 114) (by decide +kernel))) rfl
theorem km_Mill_26 : Cond.methodLink R_Mill 26 y_Mill_isRegister ∈ lw_T := lw_T_of (List.mem_append_right _ (List.mem_of_getElem? (i := 56) (by decide +kernel))) rfl
theorem kf_Mill_16 : Cond.fieldLink R_Mill 16 "WholeMill" "result" "LWholeMill$Whole;" ∈ lw_T := lw_T_of (List.mem_append_right _ (List.mem_of_getElem? (i := 40) (by decide +kernel))) rfl
theorem kf_Mill_11 : Cond.fieldLink R_Mill 11 "WholeMill" "registers" "[LWholeMill$Whole;" ∈ lw_T := lw_T_of (List.mem_append_right _ (List.mem_of_getElem? (i := 39) (by decide +kernel))) rfl
theorem km_Mill_54 : Cond.methodLink R_Mill 54 y_Whole_becomeSum ∈ lw_T := lw_T_of (List.mem_append_right _ (List.mem_of_getElem? (i := 116) (by decide +kernel))) rfl
theorem km_Mill_43 : Cond.methodLink R_Mill 43 y_Mill_keepResult ∈ lw_T := lw_T_of (List.mem_append_right _ (List.mem_of_getElem? (i := 88) (by decide +kernel))) rfl
theorem kc_Mill_bits : Cond.code y_Mill_bits b_Mill_bits 2 (some .int) ∈ lw_T := lw_T_of (List.mem_append_right _ (List.mem_of_getElem? (i := 249) (by decide +kernel))) rfl
theorem kn_Mill_bits : Cond.instanceMethod y_Mill_bits ∈ lw_T := lw_T_of (List.mem_append_right _ (List.mem_of_getElem? (i := 247) (by decide +kernel))) rfl
theorem ke_Mill_bits : Cond.selects y_Mill_bits.cls y_Mill_bits y_Mill_bits ∈ lw_T := lw_T_of (List.mem_append_right _ (List.mem_of_getElem? (i := 248) (by decide +kernel))) rfl
theorem km_Mill_30 : Cond.methodLink R_Mill 30 y_Whole_size ∈ lw_T := lw_T_of (List.mem_append_right _ (List.mem_of_getElem? (i := 59) (by decide +kernel))) rfl
theorem kc_Mill_compare : Cond.code y_Mill_compare b_Mill_compare 3 (some .int) ∈ lw_T := lw_T_of (List.mem_append_right _ (List.mem_of_getElem? (i := 245) (by decide +kernel))) rfl
theorem kn_Mill_compare : Cond.instanceMethod y_Mill_compare ∈ lw_T := lw_T_of (List.mem_append_right _ (List.mem_of_getElem? (i := 243) (by decide +kernel))) rfl
theorem ke_Mill_compare : Cond.selects y_Mill_compare.cls y_Mill_compare y_Mill_compare ∈ lw_T := lw_T_of (List.mem_append_right _ (List.mem_of_getElem? (i := 244) (by decide +kernel))) rfl
theorem km_Mill_58 : Cond.methodLink R_Mill 58 y_Whole_order ∈ lw_T := lw_T_of (List.mem_append_right _ (List.mem_of_getElem? (i := 124) (by decide +kernel))) rfl
theorem kc_Mill_copy : Cond.code y_Mill_copy b_Mill_copy 3 (some .boolean) ∈ lw_T := lw_T_of (List.mem_append_right _ (List.mem_of_getElem? (i := 111) (by decide +kernel))) rfl
theorem kn_Mill_copy : Cond.instanceMethod y_Mill_copy ∈ lw_T := lw_T_of (List.mem_append_right _ (List.mem_of_getElem? (i := 109) (by decide +kernel))) rfl
theorem ke_Mill_copy : Cond.selects y_Mill_copy.cls y_Mill_copy y_Mill_copy ∈ lw_T := lw_T_of (List.mem_append_right _ (List.mem_of_getElem? (i := 110) (by decide +kernel))) rfl
theorem km_Mill_50 : Cond.methodLink R_Mill 50 y_Whole_become ∈ lw_T := lw_T_of (List.mem_append_right _ (List.mem_of_getElem? (i := 93) (by decide +kernel))) rfl
theorem kc_Mill_divide : Cond.code y_Mill_divide b_Mill_divide 5 (some .boolean) ∈ lw_T := lw_T_of (List.mem_append_right _ (List.mem_of_getElem? (i := 148) (by decide +kernel))) rfl
theorem kn_Mill_divide : Cond.instanceMethod y_Mill_divide ∈ lw_T := lw_T_of (List.mem_append_right _ (List.mem_of_getElem? (i := 146) (by decide +kernel))) rfl
theorem ke_Mill_divide : Cond.selects y_Mill_divide.cls y_Mill_divide y_Mill_divide ∈ lw_T := lw_T_of (List.mem_append_right _ (List.mem_of_getElem? (i := 147) (by decide +kernel))) rfl
theorem kf_Mill_69 : Cond.fieldLink R_Mill 69 "WholeMill$Whole" "length" "I" ∈ lw_T := lw_T_of (List.mem_append_right _ (List.mem_of_getElem? (i := 32) (by decide +kernel))) rfl
theorem kf_Mill_20 : Cond.fieldLink R_Mill 20 "WholeMill" "left" "LWholeMill$Whole;" ∈ lw_T := lw_T_of (List.mem_append_right _ (List.mem_of_getElem? (i := 41) (by decide +kernel))) rfl
theorem kf_Mill_23 : Cond.fieldLink R_Mill 23 "WholeMill" "helper" "LWholeMill$Whole;" ∈ lw_T := lw_T_of (List.mem_append_right _ (List.mem_of_getElem? (i := 42) (by decide +kernel))) rfl
theorem km_Mill_73 : Cond.methodLink R_Mill 73 y_Div_find ∈ lw_T := lw_T_of (List.mem_append_right _ (List.mem_of_getElem? (i := 149) (by decide +kernel))) rfl
theorem kc_Mill_init : Cond.code y_Mill_init b_Mill_init 2 none ∈ lw_T := lw_T_of (List.mem_append_right _ (List.mem_of_getElem? (i := 14) (by decide +kernel))) rfl
theorem kn_Mill_init : Cond.instanceMethod y_Mill_init ∈ lw_T := lw_T_of (List.mem_append_right _ (List.mem_of_getElem? (i := 13) (by decide +kernel))) rfl
theorem km_Mill_1 : Cond.methodLink R_Mill 1 objectInit ∈ lw_T := lw_T_of (List.mem_append_right _ (List.mem_of_getElem? (i := 15) (by decide +kernel))) rfl
theorem kg_Mill_9 : Cond.classLink R_Mill 9 R_Whole ∈ lw_T := lw_T_of (List.mem_append_right _ (List.mem_of_getElem? (i := 18) (by decide +kernel))) rfl
theorem km_Mill_15 : Cond.methodLink R_Mill 15 y_Whole_init ∈ lw_T := lw_T_of (List.mem_append_right _ (List.mem_of_getElem? (i := 21) (by decide +kernel))) rfl
theorem kc_Mill_isRegister : Cond.code y_Mill_isRegister b_Mill_isRegister 1 (some .boolean) ∈ lw_T := lw_T_of (List.mem_append_right _ (List.mem_of_getElem? (i := 58) (by decide +kernel))) rfl
theorem ks_Mill_isRegister : Cond.static y_Mill_isRegister ∈ lw_T := lw_T_of (List.mem_append_right _ (List.mem_of_getElem? (i := 57) (by decide +kernel))) rfl
theorem kc_Mill_keepResult : Cond.code y_Mill_keepResult b_Mill_keepResult 2 (some .boolean) ∈ lw_T := lw_T_of (List.mem_append_right _ (List.mem_of_getElem? (i := 91) (by decide +kernel))) rfl
theorem kn_Mill_keepResult : Cond.instanceMethod y_Mill_keepResult ∈ lw_T := lw_T_of (List.mem_append_right _ (List.mem_of_getElem? (i := 90) (by decide +kernel))) rfl
theorem ke_Mill_keepResult : Cond.selects y_Mill_keepResult.cls y_Mill_keepResult y_Mill_keepResult ∈ lw_T := lw_T_of (List.mem_append_left _ (by decide +kernel)) rfl
theorem kk_Mill_85 : Cond.constant R_Mill 85 (65536) ∈ lw_T := lw_T_of (List.mem_append_right _ (List.mem_of_getElem? (i := 92) (by decide +kernel))) rfl
theorem kc_Mill_lowest : Cond.code y_Mill_lowest b_Mill_lowest 2 (some .int) ∈ lw_T := lw_T_of (List.mem_append_right _ (List.mem_of_getElem? (i := 271) (by decide +kernel))) rfl
theorem kn_Mill_lowest : Cond.instanceMethod y_Mill_lowest ∈ lw_T := lw_T_of (List.mem_append_right _ (List.mem_of_getElem? (i := 269) (by decide +kernel))) rfl
theorem ke_Mill_lowest : Cond.selects y_Mill_lowest.cls y_Mill_lowest y_Mill_lowest ∈ lw_T := lw_T_of (List.mem_append_right _ (List.mem_of_getElem? (i := 270) (by decide +kernel))) rfl
theorem km_Mill_110 : Cond.methodLink R_Mill 110 y_Whole_lowestOne ∈ lw_T := lw_T_of (List.mem_append_right _ (List.mem_of_getElem? (i := 272) (by decide +kernel))) rfl
theorem kc_Mill_ones : Cond.code y_Mill_ones b_Mill_ones 2 (some .int) ∈ lw_T := lw_T_of (List.mem_append_right _ (List.mem_of_getElem? (i := 257) (by decide +kernel))) rfl
theorem kn_Mill_ones : Cond.instanceMethod y_Mill_ones ∈ lw_T := lw_T_of (List.mem_append_right _ (List.mem_of_getElem? (i := 255) (by decide +kernel))) rfl
theorem ke_Mill_ones : Cond.selects y_Mill_ones.cls y_Mill_ones y_Mill_ones ∈ lw_T := lw_T_of (List.mem_append_right _ (List.mem_of_getElem? (i := 256) (by decide +kernel))) rfl
theorem km_Mill_107 : Cond.methodLink R_Mill 107 y_Whole_countOnes ∈ lw_T := lw_T_of (List.mem_append_right _ (List.mem_of_getElem? (i := 258) (by decide +kernel))) rfl
theorem kc_Mill_part : Cond.code y_Mill_part b_Mill_part 5 (some .boolean) ∈ lw_T := lw_T_of (List.mem_append_right _ (List.mem_of_getElem? (i := 233) (by decide +kernel))) rfl
theorem kn_Mill_part : Cond.instanceMethod y_Mill_part ∈ lw_T := lw_T_of (List.mem_append_right _ (List.mem_of_getElem? (i := 231) (by decide +kernel))) rfl
theorem ke_Mill_part : Cond.selects y_Mill_part.cls y_Mill_part y_Mill_part ∈ lw_T := lw_T_of (List.mem_append_right _ (List.mem_of_getElem? (i := 232) (by decide +kernel))) rfl
theorem km_Mill_95 : Cond.methodLink R_Mill 95 y_Math_min ∈ lw_T := lw_T_of (List.mem_append_right _ (List.mem_of_getElem? (i := 234) (by decide +kernel))) rfl
theorem km_Mill_92 : Cond.methodLink R_Mill 92 y_Whole_becomeShiftedRight ∈ lw_T := lw_T_of (List.mem_append_right _ (List.mem_of_getElem? (i := 229) (by decide +kernel))) rfl
theorem km_Mill_99 : Cond.methodLink R_Mill 99 y_Whole_keepLowest ∈ lw_T := lw_T_of (List.mem_append_right _ (List.mem_of_getElem? (i := 237) (by decide +kernel))) rfl
theorem kc_Mill_push : Cond.code y_Mill_push b_Mill_push 4 (some .boolean) ∈ lw_T := lw_T_of (List.mem_append_right _ (List.mem_of_getElem? (i := 55) (by decide +kernel))) rfl
theorem kn_Mill_push : Cond.instanceMethod y_Mill_push ∈ lw_T := lw_T_of (List.mem_append_right _ (List.mem_of_getElem? (i := 53) (by decide +kernel))) rfl
theorem ke_Mill_push : Cond.selects y_Mill_push.cls y_Mill_push y_Mill_push ∈ lw_T := lw_T_of (List.mem_append_right _ (List.mem_of_getElem? (i := 54) (by decide +kernel))) rfl
theorem kk_Mill_34 : Cond.constant R_Mill 34 (65472) ∈ lw_T := lw_T_of (List.mem_append_right _ (List.mem_of_getElem? (i := 67) (by decide +kernel))) rfl
theorem km_Mill_35 : Cond.methodLink R_Mill 35 y_Whole_becomeShiftedLeft ∈ lw_T := lw_T_of (List.mem_append_right _ (List.mem_of_getElem? (i := 68) (by decide +kernel))) rfl
theorem km_Mill_39 : Cond.methodLink R_Mill 39 y_Whole_fillLowestPair ∈ lw_T := lw_T_of (List.mem_append_right _ (List.mem_of_getElem? (i := 81) (by decide +kernel))) rfl
theorem kc_Mill_rest : Cond.code y_Mill_rest b_Mill_rest 3 (some .int) ∈ lw_T := lw_T_of (List.mem_append_right _ (List.mem_of_getElem? (i := 282) (by decide +kernel))) rfl
theorem kn_Mill_rest : Cond.instanceMethod y_Mill_rest ∈ lw_T := lw_T_of (List.mem_append_right _ (List.mem_of_getElem? (i := 280) (by decide +kernel))) rfl
theorem ke_Mill_rest : Cond.selects y_Mill_rest.cls y_Mill_rest y_Mill_rest ∈ lw_T := lw_T_of (List.mem_append_right _ (List.mem_of_getElem? (i := 281) (by decide +kernel))) rfl
theorem km_Mill_113 : Cond.methodLink R_Mill 113 y_Whole_remainder ∈ lw_T := lw_T_of (List.mem_append_right _ (List.mem_of_getElem? (i := 283) (by decide +kernel))) rfl
theorem kc_Mill_root : Cond.code y_Mill_root b_Mill_root 4 (some .boolean) ∈ lw_T := lw_T_of (List.mem_append_right _ (List.mem_of_getElem? (i := 184) (by decide +kernel))) rfl
theorem kn_Mill_root : Cond.instanceMethod y_Mill_root ∈ lw_T := lw_T_of (List.mem_append_right _ (List.mem_of_getElem? (i := 182) (by decide +kernel))) rfl
theorem ke_Mill_root : Cond.selects y_Mill_root.cls y_Mill_root y_Mill_root ∈ lw_T := lw_T_of (List.mem_append_right _ (List.mem_of_getElem? (i := 183) (by decide +kernel))) rfl
theorem km_Mill_79 : Cond.methodLink R_Mill 79 y_Root_find ∈ lw_T := lw_T_of (List.mem_append_right _ (List.mem_of_getElem? (i := 185) (by decide +kernel))) rfl
theorem kc_Mill_shift : Cond.code y_Mill_shift b_Mill_shift 4 (some .boolean) ∈ lw_T := lw_T_of (List.mem_append_right _ (List.mem_of_getElem? (i := 224) (by decide +kernel))) rfl
theorem kn_Mill_shift : Cond.instanceMethod y_Mill_shift ∈ lw_T := lw_T_of (List.mem_append_right _ (List.mem_of_getElem? (i := 222) (by decide +kernel))) rfl
theorem ke_Mill_shift : Cond.selects y_Mill_shift.cls y_Mill_shift y_Mill_shift ∈ lw_T := lw_T_of (List.mem_append_right _ (List.mem_of_getElem? (i := 223) (by decide +kernel))) rfl
theorem kk_Mill_84 : Cond.constant R_Mill 84 (-65536) ∈ lw_T := lw_T_of (List.mem_append_right _ (List.mem_of_getElem? (i := 225) (by decide +kernel))) rfl
theorem km_Mill_86 : Cond.methodLink R_Mill 86 y_Math_abs ∈ lw_T := lw_T_of (List.mem_append_right _ (List.mem_of_getElem? (i := 226) (by decide +kernel))) rfl
theorem kc_Mill_spread : Cond.code y_Mill_spread b_Mill_spread 5 (some .boolean) ∈ lw_T := lw_T_of (List.mem_append_right _ (List.mem_of_getElem? (i := 103) (by decide +kernel))) rfl
theorem kn_Mill_spread : Cond.instanceMethod y_Mill_spread ∈ lw_T := lw_T_of (List.mem_append_right _ (List.mem_of_getElem? (i := 101) (by decide +kernel))) rfl
theorem ke_Mill_spread : Cond.selects y_Mill_spread.cls y_Mill_spread y_Mill_spread ∈ lw_T := lw_T_of (List.mem_append_right _ (List.mem_of_getElem? (i := 102) (by decide +kernel))) rfl
theorem km_Mill_46 : Cond.methodLink R_Mill 46 y_Whole_becomePairs ∈ lw_T := lw_T_of (List.mem_append_right _ (List.mem_of_getElem? (i := 104) (by decide +kernel))) rfl
theorem kc_Mill_take : Cond.code y_Mill_take b_Mill_take 4 (some .boolean) ∈ lw_T := lw_T_of (List.mem_append_right _ (List.mem_of_getElem? (i := 123) (by decide +kernel))) rfl
theorem kn_Mill_take : Cond.instanceMethod y_Mill_take ∈ lw_T := lw_T_of (List.mem_append_right _ (List.mem_of_getElem? (i := 121) (by decide +kernel))) rfl
theorem ke_Mill_take : Cond.selects y_Mill_take.cls y_Mill_take y_Mill_take ∈ lw_T := lw_T_of (List.mem_append_right _ (List.mem_of_getElem? (i := 122) (by decide +kernel))) rfl
theorem km_Mill_62 : Cond.methodLink R_Mill 62 y_Whole_becomeDifference ∈ lw_T := lw_T_of (List.mem_append_right _ (List.mem_of_getElem? (i := 128) (by decide +kernel))) rfl
theorem kc_Mill_times : Cond.code y_Mill_times b_Mill_times 4 (some .boolean) ∈ lw_T := lw_T_of (List.mem_append_right _ (List.mem_of_getElem? (i := 135) (by decide +kernel))) rfl
theorem kn_Mill_times : Cond.instanceMethod y_Mill_times ∈ lw_T := lw_T_of (List.mem_append_right _ (List.mem_of_getElem? (i := 133) (by decide +kernel))) rfl
theorem ke_Mill_times : Cond.selects y_Mill_times.cls y_Mill_times y_Mill_times ∈ lw_T := lw_T_of (List.mem_append_right _ (List.mem_of_getElem? (i := 134) (by decide +kernel))) rfl
theorem kk_Mill_65 : Cond.constant R_Mill 65 (65537) ∈ lw_T := lw_T_of (List.mem_append_right _ (List.mem_of_getElem? (i := 136) (by decide +kernel))) rfl
theorem km_Mill_66 : Cond.methodLink R_Mill 66 y_Whole_becomeProduct ∈ lw_T := lw_T_of (List.mem_append_right _ (List.mem_of_getElem? (i := 137) (by decide +kernel))) rfl
theorem kc_Mill_word : Cond.code y_Mill_word b_Mill_word 3 (some .int) ∈ lw_T := lw_T_of (List.mem_append_right _ (List.mem_of_getElem? (i := 253) (by decide +kernel))) rfl
theorem kn_Mill_word : Cond.instanceMethod y_Mill_word ∈ lw_T := lw_T_of (List.mem_append_right _ (List.mem_of_getElem? (i := 251) (by decide +kernel))) rfl
theorem ke_Mill_word : Cond.selects y_Mill_word.cls y_Mill_word y_Mill_word ∈ lw_T := lw_T_of (List.mem_append_right _ (List.mem_of_getElem? (i := 252) (by decide +kernel))) rfl
theorem kf_Mill_103 : Cond.fieldLink R_Mill 103 "WholeMill$Whole" "words" "[I" ∈ lw_T := lw_T_of (List.mem_append_right _ (List.mem_of_getElem? (i := 28) (by decide +kernel))) rfl
theorem ki_Mod : Cond.initialized R_Mod ∈ lw_T := lw_T_of (List.mem_append_right _ (List.mem_of_getElem? (i := 3) (by decide +kernel))) rfl
theorem kc_Mod_add : Cond.code y_Mod_add b_Mod_add 7 (some .boolean) ∈ lw_T := lw_T_of (List.mem_append_right _ (List.mem_of_getElem? (i := 353) (by decide +kernel))) rfl
theorem kn_Mod_add : Cond.instanceMethod y_Mod_add ∈ lw_T := lw_T_of (List.mem_append_right _ (List.mem_of_getElem? (i := 351) (by decide +kernel))) rfl
theorem ke_Mod_add : Cond.selects y_Mod_add.cls y_Mod_add y_Mod_add ∈ lw_T := lw_T_of (List.mem_append_right _ (List.mem_of_getElem? (i := 352) (by decide +kernel))) rfl
theorem km_Mod_41 : Cond.methodLink R_Mod 41 y_Mod_isRegister ∈ lw_T := lw_T_of (List.mem_append_right _ (List.mem_of_getElem? (i := 323) (by decide +kernel))) rfl
theorem km_Mod_45 : Cond.methodLink R_Mod 45 y_Mod_loadX ∈ lw_T := lw_T_of (List.mem_append_right _ (List.mem_of_getElem? (i := 326) (by decide +kernel))) rfl
theorem km_Mod_58 : Cond.methodLink R_Mod 58 y_Mod_loadY ∈ lw_T := lw_T_of (List.mem_append_right _ (List.mem_of_getElem? (i := 354) (by decide +kernel))) rfl
theorem km_Mod_49 : Cond.methodLink R_Mod 49 y_Mod_clearZ ∈ lw_T := lw_T_of (List.mem_append_right _ (List.mem_of_getElem? (i := 330) (by decide +kernel))) rfl
theorem kf_Mod_17 : Cond.fieldLink R_Mod 17 "WholeMillModel" "x" "[I" ∈ lw_T := lw_T_of (List.mem_append_right _ (List.mem_of_getElem? (i := 296) (by decide +kernel))) rfl
theorem kf_Mod_20 : Cond.fieldLink R_Mod 20 "WholeMillModel" "y" "[I" ∈ lw_T := lw_T_of (List.mem_append_right _ (List.mem_of_getElem? (i := 297) (by decide +kernel))) rfl
theorem kf_Mod_23 : Cond.fieldLink R_Mod 23 "WholeMillModel" "z" "[I" ∈ lw_T := lw_T_of (List.mem_append_right _ (List.mem_of_getElem? (i := 298) (by decide +kernel))) rfl
theorem kk_Mod_40 : Cond.constant R_Mod 40 (65535) ∈ lw_T := lw_T_of (List.mem_append_right _ (List.mem_of_getElem? (i := 358) (by decide +kernel))) rfl
theorem km_Mod_54 : Cond.methodLink R_Mod 54 y_Mod_put ∈ lw_T := lw_T_of (List.mem_append_right _ (List.mem_of_getElem? (i := 335) (by decide +kernel))) rfl
theorem kc_Mod_bitOf : Cond.code y_Mod_bitOf b_Mod_bitOf 2 (some .int) ∈ lw_T := lw_T_of (List.mem_append_right _ (List.mem_of_getElem? (i := 379) (by decide +kernel))) rfl
theorem ks_Mod_bitOf : Cond.static y_Mod_bitOf ∈ lw_T := lw_T_of (List.mem_append_right _ (List.mem_of_getElem? (i := 378) (by decide +kernel))) rfl
theorem kc_Mod_bits : Cond.code y_Mod_bits b_Mod_bits 2 (some .int) ∈ lw_T := lw_T_of (List.mem_append_right _ (List.mem_of_getElem? (i := 417) (by decide +kernel))) rfl
theorem kn_Mod_bits : Cond.instanceMethod y_Mod_bits ∈ lw_T := lw_T_of (List.mem_append_right _ (List.mem_of_getElem? (i := 415) (by decide +kernel))) rfl
theorem ke_Mod_bits : Cond.selects y_Mod_bits.cls y_Mod_bits y_Mod_bits ∈ lw_T := lw_T_of (List.mem_append_right _ (List.mem_of_getElem? (i := 416) (by decide +kernel))) rfl
theorem km_Mod_87 : Cond.methodLink R_Mod 87 y_Mod_bitsOf ∈ lw_T := lw_T_of (List.mem_append_right _ (List.mem_of_getElem? (i := 402) (by decide +kernel))) rfl
theorem kc_Mod_bitsOf : Cond.code y_Mod_bitsOf b_Mod_bitsOf 4 (some .int) ∈ lw_T := lw_T_of (List.mem_append_right _ (List.mem_of_getElem? (i := 405) (by decide +kernel))) rfl
theorem kn_Mod_bitsOf : Cond.instanceMethod y_Mod_bitsOf ∈ lw_T := lw_T_of (List.mem_append_right _ (List.mem_of_getElem? (i := 404) (by decide +kernel))) rfl
theorem ke_Mod_bitsOf : Cond.selects y_Mod_bitsOf.cls y_Mod_bitsOf y_Mod_bitsOf ∈ lw_T := lw_T_of (List.mem_append_left _ (by decide +kernel)) rfl
theorem kf_Mod_14 : Cond.fieldLink R_Mod 14 "WholeMillModel" "sizes" "[I" ∈ lw_T := lw_T_of (List.mem_append_right _ (List.mem_of_getElem? (i := 295) (by decide +kernel))) rfl
theorem kf_Mod_8 : Cond.fieldLink R_Mod 8 "WholeMillModel" "digits" "[I" ∈ lw_T := lw_T_of (List.mem_append_right _ (List.mem_of_getElem? (i := 294) (by decide +kernel))) rfl
theorem kc_Mod_clearZ : Cond.code y_Mod_clearZ b_Mod_clearZ 2 none ∈ lw_T := lw_T_of (List.mem_append_right _ (List.mem_of_getElem? (i := 333) (by decide +kernel))) rfl
theorem kn_Mod_clearZ : Cond.instanceMethod y_Mod_clearZ ∈ lw_T := lw_T_of (List.mem_append_right _ (List.mem_of_getElem? (i := 332) (by decide +kernel))) rfl
theorem ke_Mod_clearZ : Cond.selects y_Mod_clearZ.cls y_Mod_clearZ y_Mod_clearZ ∈ lw_T := lw_T_of (List.mem_append_left _ (by decide +kernel)) rfl
theorem kf_Mod_33 : Cond.fieldLink R_Mod 33 "WholeMillModel" "zs" "I" ∈ lw_T := lw_T_of (List.mem_append_right _ (List.mem_of_getElem? (i := 301) (by decide +kernel))) rfl
theorem kc_Mod_compare : Cond.code y_Mod_compare b_Mod_compare 3 (some .int) ∈ lw_T := lw_T_of (List.mem_append_right _ (List.mem_of_getElem? (i := 413) (by decide +kernel))) rfl
theorem kn_Mod_compare : Cond.instanceMethod y_Mod_compare ∈ lw_T := lw_T_of (List.mem_append_right _ (List.mem_of_getElem? (i := 411) (by decide +kernel))) rfl
theorem ke_Mod_compare : Cond.selects y_Mod_compare.cls y_Mod_compare y_Mod_compare ∈ lw_T := lw_T_of (List.mem_append_right _ (List.mem_of_getElem? (i := 412) (by decide +kernel))) rfl
theorem kf_Mod_26 : Cond.fieldLink R_Mod 26 "WholeMillModel" "xs" "I" ∈ lw_T := lw_T_of (List.mem_append_right _ (List.mem_of_getElem? (i := 299) (by decide +kernel))) rfl
theorem kf_Mod_30 : Cond.fieldLink R_Mod 30 "WholeMillModel" "ys" "I" ∈ lw_T := lw_T_of (List.mem_append_right _ (List.mem_of_getElem? (i := 300) (by decide +kernel))) rfl
theorem km_Mod_61 : Cond.methodLink R_Mod 61 y_Mod_compareRows ∈ lw_T := lw_T_of (List.mem_append_right _ (List.mem_of_getElem? (i := 363) (by decide +kernel))) rfl
theorem kc_Mod_compareRows : Cond.code y_Mod_compareRows b_Mod_compareRows 5 (some .int) ∈ lw_T := lw_T_of (List.mem_append_right _ (List.mem_of_getElem? (i := 365) (by decide +kernel))) rfl
theorem ks_Mod_compareRows : Cond.static y_Mod_compareRows ∈ lw_T := lw_T_of (List.mem_append_right _ (List.mem_of_getElem? (i := 364) (by decide +kernel))) rfl
theorem kc_Mod_copy : Cond.code y_Mod_copy b_Mod_copy 3 (some .boolean) ∈ lw_T := lw_T_of (List.mem_append_right _ (List.mem_of_getElem? (i := 349) (by decide +kernel))) rfl
theorem kn_Mod_copy : Cond.instanceMethod y_Mod_copy ∈ lw_T := lw_T_of (List.mem_append_right _ (List.mem_of_getElem? (i := 347) (by decide +kernel))) rfl
theorem ke_Mod_copy : Cond.selects y_Mod_copy.cls y_Mod_copy y_Mod_copy ∈ lw_T := lw_T_of (List.mem_append_right _ (List.mem_of_getElem? (i := 348) (by decide +kernel))) rfl
theorem kc_Mod_divide : Cond.code y_Mod_divide b_Mod_divide 8 (some .boolean) ∈ lw_T := lw_T_of (List.mem_append_right _ (List.mem_of_getElem? (i := 376) (by decide +kernel))) rfl
theorem kn_Mod_divide : Cond.instanceMethod y_Mod_divide ∈ lw_T := lw_T_of (List.mem_append_right _ (List.mem_of_getElem? (i := 374) (by decide +kernel))) rfl
theorem ke_Mod_divide : Cond.selects y_Mod_divide.cls y_Mod_divide y_Mod_divide ∈ lw_T := lw_T_of (List.mem_append_right _ (List.mem_of_getElem? (i := 375) (by decide +kernel))) rfl
theorem km_Mod_68 : Cond.methodLink R_Mod 68 y_Mod_bitOf ∈ lw_T := lw_T_of (List.mem_append_right _ (List.mem_of_getElem? (i := 377) (by decide +kernel))) rfl
theorem km_Mod_71 : Cond.methodLink R_Mod 71 y_Mod_twice ∈ lw_T := lw_T_of (List.mem_append_right _ (List.mem_of_getElem? (i := 380) (by decide +kernel))) rfl
theorem km_Mod_65 : Cond.methodLink R_Mod 65 y_Mod_lessen ∈ lw_T := lw_T_of (List.mem_append_right _ (List.mem_of_getElem? (i := 366) (by decide +kernel))) rfl
theorem kc_Mod_halve : Cond.code y_Mod_halve b_Mod_halve 2 none ∈ lw_T := lw_T_of (List.mem_append_right _ (List.mem_of_getElem? (i := 390) (by decide +kernel))) rfl
theorem kn_Mod_halve : Cond.instanceMethod y_Mod_halve ∈ lw_T := lw_T_of (List.mem_append_right _ (List.mem_of_getElem? (i := 389) (by decide +kernel))) rfl
theorem ke_Mod_halve : Cond.selects y_Mod_halve.cls y_Mod_halve y_Mod_halve ∈ lw_T := lw_T_of (List.mem_append_left _ (by decide +kernel)) rfl
theorem km_Mod_36 : Cond.methodLink R_Mod 36 y_Mod_trim ∈ lw_T := lw_T_of (List.mem_append_right _ (List.mem_of_getElem? (i := 339) (by decide +kernel))) rfl
theorem kc_Mod_init : Cond.code y_Mod_init b_Mod_init 1 none ∈ lw_T := lw_T_of (List.mem_append_right _ (List.mem_of_getElem? (i := 291) (by decide +kernel))) rfl
theorem kn_Mod_init : Cond.instanceMethod y_Mod_init ∈ lw_T := lw_T_of (List.mem_append_right _ (List.mem_of_getElem? (i := 290) (by decide +kernel))) rfl
theorem km_Mod_1 : Cond.methodLink R_Mod 1 objectInit ∈ lw_T := lw_T_of (List.mem_append_right _ (List.mem_of_getElem? (i := 292) (by decide +kernel))) rfl
theorem kk_Mod_7 : Cond.constant R_Mod 7 (65536) ∈ lw_T := lw_T_of (List.mem_append_right _ (List.mem_of_getElem? (i := 293) (by decide +kernel))) rfl
theorem kc_Mod_isRegister : Cond.code y_Mod_isRegister b_Mod_isRegister 1 (some .boolean) ∈ lw_T := lw_T_of (List.mem_append_right _ (List.mem_of_getElem? (i := 325) (by decide +kernel))) rfl
theorem ks_Mod_isRegister : Cond.static y_Mod_isRegister ∈ lw_T := lw_T_of (List.mem_append_right _ (List.mem_of_getElem? (i := 324) (by decide +kernel))) rfl
theorem kc_Mod_lessen : Cond.code y_Mod_lessen b_Mod_lessen 7 (some .int) ∈ lw_T := lw_T_of (List.mem_append_right _ (List.mem_of_getElem? (i := 368) (by decide +kernel))) rfl
theorem ks_Mod_lessen : Cond.static y_Mod_lessen ∈ lw_T := lw_T_of (List.mem_append_right _ (List.mem_of_getElem? (i := 367) (by decide +kernel))) rfl
theorem kc_Mod_loadX : Cond.code y_Mod_loadX b_Mod_loadX 3 none ∈ lw_T := lw_T_of (List.mem_append_right _ (List.mem_of_getElem? (i := 329) (by decide +kernel))) rfl
theorem kn_Mod_loadX : Cond.instanceMethod y_Mod_loadX ∈ lw_T := lw_T_of (List.mem_append_right _ (List.mem_of_getElem? (i := 328) (by decide +kernel))) rfl
theorem ke_Mod_loadX : Cond.selects y_Mod_loadX.cls y_Mod_loadX y_Mod_loadX ∈ lw_T := lw_T_of (List.mem_append_left _ (by decide +kernel)) rfl
theorem kc_Mod_loadY : Cond.code y_Mod_loadY b_Mod_loadY 3 none ∈ lw_T := lw_T_of (List.mem_append_right _ (List.mem_of_getElem? (i := 357) (by decide +kernel))) rfl
theorem kn_Mod_loadY : Cond.instanceMethod y_Mod_loadY ∈ lw_T := lw_T_of (List.mem_append_right _ (List.mem_of_getElem? (i := 356) (by decide +kernel))) rfl
theorem ke_Mod_loadY : Cond.selects y_Mod_loadY.cls y_Mod_loadY y_Mod_loadY ∈ lw_T := lw_T_of (List.mem_append_left _ (by decide +kernel)) rfl
theorem kc_Mod_lowest : Cond.code y_Mod_lowest b_Mod_lowest 3 (some .int) ∈ lw_T := lw_T_of (List.mem_append_right _ (List.mem_of_getElem? (i := 429) (by decide +kernel))) rfl
theorem kn_Mod_lowest : Cond.instanceMethod y_Mod_lowest ∈ lw_T := lw_T_of (List.mem_append_right _ (List.mem_of_getElem? (i := 427) (by decide +kernel))) rfl
theorem ke_Mod_lowest : Cond.selects y_Mod_lowest.cls y_Mod_lowest y_Mod_lowest ∈ lw_T := lw_T_of (List.mem_append_right _ (List.mem_of_getElem? (i := 428) (by decide +kernel))) rfl
theorem kc_Mod_moved : Cond.code y_Mod_moved b_Mod_moved 16 (some .boolean) ∈ lw_T := lw_T_of (List.mem_append_right _ (List.mem_of_getElem? (i := 400) (by decide +kernel))) rfl
theorem kn_Mod_moved : Cond.instanceMethod y_Mod_moved ∈ lw_T := lw_T_of (List.mem_append_right _ (List.mem_of_getElem? (i := 399) (by decide +kernel))) rfl
theorem ke_Mod_moved : Cond.selects y_Mod_moved.cls y_Mod_moved y_Mod_moved ∈ lw_T := lw_T_of (List.mem_append_left _ (by decide +kernel)) rfl
theorem kl_Mod_79 : Cond.constantLong R_Mod 79 (16) ∈ lw_T := lw_T_of (List.mem_append_right _ (List.mem_of_getElem? (i := 401) (by decide +kernel))) rfl
theorem kc_Mod_ones : Cond.code y_Mod_ones b_Mod_ones 5 (some .int) ∈ lw_T := lw_T_of (List.mem_append_right _ (List.mem_of_getElem? (i := 425) (by decide +kernel))) rfl
theorem kn_Mod_ones : Cond.instanceMethod y_Mod_ones ∈ lw_T := lw_T_of (List.mem_append_right _ (List.mem_of_getElem? (i := 423) (by decide +kernel))) rfl
theorem ke_Mod_ones : Cond.selects y_Mod_ones.cls y_Mod_ones y_Mod_ones ∈ lw_T := lw_T_of (List.mem_append_right _ (List.mem_of_getElem? (i := 424) (by decide +kernel))) rfl
theorem kc_Mod_part : Cond.code y_Mod_part b_Mod_part 5 (some .boolean) ∈ lw_T := lw_T_of (List.mem_append_right _ (List.mem_of_getElem? (i := 409) (by decide +kernel))) rfl
theorem kn_Mod_part : Cond.instanceMethod y_Mod_part ∈ lw_T := lw_T_of (List.mem_append_right _ (List.mem_of_getElem? (i := 407) (by decide +kernel))) rfl
theorem ke_Mod_part : Cond.selects y_Mod_part.cls y_Mod_part y_Mod_part ∈ lw_T := lw_T_of (List.mem_append_right _ (List.mem_of_getElem? (i := 408) (by decide +kernel))) rfl
theorem km_Mod_83 : Cond.methodLink R_Mod 83 y_Mod_moved ∈ lw_T := lw_T_of (List.mem_append_right _ (List.mem_of_getElem? (i := 397) (by decide +kernel))) rfl
theorem kc_Mod_push : Cond.code y_Mod_push b_Mod_push 5 (some .boolean) ∈ lw_T := lw_T_of (List.mem_append_right _ (List.mem_of_getElem? (i := 322) (by decide +kernel))) rfl
theorem kn_Mod_push : Cond.instanceMethod y_Mod_push ∈ lw_T := lw_T_of (List.mem_append_right _ (List.mem_of_getElem? (i := 320) (by decide +kernel))) rfl
theorem ke_Mod_push : Cond.selects y_Mod_push.cls y_Mod_push y_Mod_push ∈ lw_T := lw_T_of (List.mem_append_right _ (List.mem_of_getElem? (i := 321) (by decide +kernel))) rfl
theorem kl_Mod_52 : Cond.constantLong R_Mod 52 (65535) ∈ lw_T := lw_T_of (List.mem_append_right _ (List.mem_of_getElem? (i := 334) (by decide +kernel))) rfl
theorem kc_Mod_put : Cond.code y_Mod_put b_Mod_put 6 (some .boolean) ∈ lw_T := lw_T_of (List.mem_append_right _ (List.mem_of_getElem? (i := 338) (by decide +kernel))) rfl
theorem kn_Mod_put : Cond.instanceMethod y_Mod_put ∈ lw_T := lw_T_of (List.mem_append_right _ (List.mem_of_getElem? (i := 337) (by decide +kernel))) rfl
theorem ke_Mod_put : Cond.selects y_Mod_put.cls y_Mod_put y_Mod_put ∈ lw_T := lw_T_of (List.mem_append_left _ (by decide +kernel)) rfl
theorem kc_Mod_rest : Cond.code y_Mod_rest b_Mod_rest 6 (some .int) ∈ lw_T := lw_T_of (List.mem_append_right _ (List.mem_of_getElem? (i := 433) (by decide +kernel))) rfl
theorem kn_Mod_rest : Cond.instanceMethod y_Mod_rest ∈ lw_T := lw_T_of (List.mem_append_right _ (List.mem_of_getElem? (i := 431) (by decide +kernel))) rfl
theorem ke_Mod_rest : Cond.selects y_Mod_rest.cls y_Mod_rest y_Mod_rest ∈ lw_T := lw_T_of (List.mem_append_right _ (List.mem_of_getElem? (i := 432) (by decide +kernel))) rfl
theorem kl_Mod_81 : Cond.constantLong R_Mod 81 (65536) ∈ lw_T := lw_T_of (List.mem_append_right _ (List.mem_of_getElem? (i := 396) (by decide +kernel))) rfl
theorem kc_Mod_root : Cond.code y_Mod_root b_Mod_root 6 (some .boolean) ∈ lw_T := lw_T_of (List.mem_append_right _ (List.mem_of_getElem? (i := 386) (by decide +kernel))) rfl
theorem kn_Mod_root : Cond.instanceMethod y_Mod_root ∈ lw_T := lw_T_of (List.mem_append_right _ (List.mem_of_getElem? (i := 384) (by decide +kernel))) rfl
theorem ke_Mod_root : Cond.selects y_Mod_root.cls y_Mod_root y_Mod_root ∈ lw_T := lw_T_of (List.mem_append_right _ (List.mem_of_getElem? (i := 385) (by decide +kernel))) rfl
theorem km_Mod_75 : Cond.methodLink R_Mod 75 y_Mod_halve ∈ lw_T := lw_T_of (List.mem_append_right _ (List.mem_of_getElem? (i := 387) (by decide +kernel))) rfl
theorem kk_Mod_78 : Cond.constant R_Mod 78 (65534) ∈ lw_T := lw_T_of (List.mem_append_right _ (List.mem_of_getElem? (i := 391) (by decide +kernel))) rfl
theorem kc_Mod_shift : Cond.code y_Mod_shift b_Mod_shift 6 (some .boolean) ∈ lw_T := lw_T_of (List.mem_append_right _ (List.mem_of_getElem? (i := 395) (by decide +kernel))) rfl
theorem kn_Mod_shift : Cond.instanceMethod y_Mod_shift ∈ lw_T := lw_T_of (List.mem_append_right _ (List.mem_of_getElem? (i := 393) (by decide +kernel))) rfl
theorem ke_Mod_shift : Cond.selects y_Mod_shift.cls y_Mod_shift y_Mod_shift ∈ lw_T := lw_T_of (List.mem_append_right _ (List.mem_of_getElem? (i := 394) (by decide +kernel))) rfl
theorem kc_Mod_spread : Cond.code y_Mod_spread b_Mod_spread 6 (some .boolean) ∈ lw_T := lw_T_of (List.mem_append_right _ (List.mem_of_getElem? (i := 345) (by decide +kernel))) rfl
theorem kn_Mod_spread : Cond.instanceMethod y_Mod_spread ∈ lw_T := lw_T_of (List.mem_append_right _ (List.mem_of_getElem? (i := 343) (by decide +kernel))) rfl
theorem ke_Mod_spread : Cond.selects y_Mod_spread.cls y_Mod_spread y_Mod_spread ∈ lw_T := lw_T_of (List.mem_append_right _ (List.mem_of_getElem? (i := 344) (by decide +kernel))) rfl
theorem kc_Mod_take : Cond.code y_Mod_take b_Mod_take 4 (some .boolean) ∈ lw_T := lw_T_of (List.mem_append_right _ (List.mem_of_getElem? (i := 362) (by decide +kernel))) rfl
theorem kn_Mod_take : Cond.instanceMethod y_Mod_take ∈ lw_T := lw_T_of (List.mem_append_right _ (List.mem_of_getElem? (i := 360) (by decide +kernel))) rfl
theorem ke_Mod_take : Cond.selects y_Mod_take.cls y_Mod_take y_Mod_take ∈ lw_T := lw_T_of (List.mem_append_right _ (List.mem_of_getElem? (i := 361) (by decide +kernel))) rfl
theorem kc_Mod_times : Cond.code y_Mod_times b_Mod_times 10 (some .boolean) ∈ lw_T := lw_T_of (List.mem_append_right _ (List.mem_of_getElem? (i := 372) (by decide +kernel))) rfl
theorem kn_Mod_times : Cond.instanceMethod y_Mod_times ∈ lw_T := lw_T_of (List.mem_append_right _ (List.mem_of_getElem? (i := 370) (by decide +kernel))) rfl
theorem ke_Mod_times : Cond.selects y_Mod_times.cls y_Mod_times y_Mod_times ∈ lw_T := lw_T_of (List.mem_append_right _ (List.mem_of_getElem? (i := 371) (by decide +kernel))) rfl
theorem kc_Mod_trim : Cond.code y_Mod_trim b_Mod_trim 3 (some .int) ∈ lw_T := lw_T_of (List.mem_append_right _ (List.mem_of_getElem? (i := 341) (by decide +kernel))) rfl
theorem ks_Mod_trim : Cond.static y_Mod_trim ∈ lw_T := lw_T_of (List.mem_append_right _ (List.mem_of_getElem? (i := 340) (by decide +kernel))) rfl
theorem kc_Mod_twice : Cond.code y_Mod_twice b_Mod_twice 6 (some .int) ∈ lw_T := lw_T_of (List.mem_append_right _ (List.mem_of_getElem? (i := 382) (by decide +kernel))) rfl
theorem ks_Mod_twice : Cond.static y_Mod_twice ∈ lw_T := lw_T_of (List.mem_append_right _ (List.mem_of_getElem? (i := 381) (by decide +kernel))) rfl
theorem kc_Mod_word : Cond.code y_Mod_word b_Mod_word 3 (some .int) ∈ lw_T := lw_T_of (List.mem_append_right _ (List.mem_of_getElem? (i := 421) (by decide +kernel))) rfl
theorem kn_Mod_word : Cond.instanceMethod y_Mod_word ∈ lw_T := lw_T_of (List.mem_append_right _ (List.mem_of_getElem? (i := 419) (by decide +kernel))) rfl
theorem ke_Mod_word : Cond.selects y_Mod_word.cls y_Mod_word y_Mod_word ∈ lw_T := lw_T_of (List.mem_append_right _ (List.mem_of_getElem? (i := 420) (by decide +kernel))) rfl
theorem ki_Root : Cond.initialized R_Root ∈ lw_T := lw_T_of (List.mem_append_right _ (List.mem_of_getElem? (i := 9) (by decide +kernel))) rfl
theorem kc_Root_find : Cond.code y_Root_find b_Root_find 7 none ∈ lw_T := lw_T_of (List.mem_append_right _ (List.mem_of_getElem? (i := 187) (by decide +kernel))) rfl
theorem ks_Root_find : Cond.static y_Root_find ∈ lw_T := lw_T_of (List.mem_append_right _ (List.mem_of_getElem? (i := 186) (by decide +kernel))) rfl
theorem kf_Root_9 : Cond.fieldLink R_Root 9 "WholeMill$Whole" "length" "I" ∈ lw_T := lw_T_of (List.mem_append_right _ (List.mem_of_getElem? (i := 31) (by decide +kernel))) rfl
theorem km_Root_15 : Cond.methodLink R_Root 15 y_Whole_clear ∈ lw_T := lw_T_of (List.mem_append_right _ (List.mem_of_getElem? (i := 188) (by decide +kernel))) rfl
theorem km_Root_18 : Cond.methodLink R_Root 18 y_Whole_size ∈ lw_T := lw_T_of (List.mem_append_right _ (List.mem_of_getElem? (i := 189) (by decide +kernel))) rfl
theorem km_Root_22 : Cond.methodLink R_Root 22 y_Whole_becomeShiftedLeft ∈ lw_T := lw_T_of (List.mem_append_right _ (List.mem_of_getElem? (i := 190) (by decide +kernel))) rfl
theorem kf_Root_26 : Cond.fieldLink R_Root 26 "WholeMill$Whole" "words" "[I" ∈ lw_T := lw_T_of (List.mem_append_right _ (List.mem_of_getElem? (i := 26) (by decide +kernel))) rfl
theorem km_Root_30 : Cond.methodLink R_Root 30 y_Root_firstWord ∈ lw_T := lw_T_of (List.mem_append_right _ (List.mem_of_getElem? (i := 191) (by decide +kernel))) rfl
theorem km_Root_36 : Cond.methodLink R_Root 36 y_Root_nextWord ∈ lw_T := lw_T_of (List.mem_append_right _ (List.mem_of_getElem? (i := 202) (by decide +kernel))) rfl
theorem km_Root_40 : Cond.methodLink R_Root 40 y_Root_shiftBack ∈ lw_T := lw_T_of (List.mem_append_right _ (List.mem_of_getElem? (i := 215) (by decide +kernel))) rfl
theorem kc_Root_firstWord : Cond.code y_Root_firstWord b_Root_firstWord 10 none ∈ lw_T := lw_T_of (List.mem_append_right _ (List.mem_of_getElem? (i := 193) (by decide +kernel))) rfl
theorem ks_Root_firstWord : Cond.static y_Root_firstWord ∈ lw_T := lw_T_of (List.mem_append_right _ (List.mem_of_getElem? (i := 192) (by decide +kernel))) rfl
theorem kl_Root_44 : Cond.constantLong R_Root 44 (4294967295) ∈ lw_T := lw_T_of (List.mem_append_right _ (List.mem_of_getElem? (i := 194) (by decide +kernel))) rfl
theorem km_Root_46 : Cond.methodLink R_Root 46 y_Root_rootOfPair ∈ lw_T := lw_T_of (List.mem_append_right _ (List.mem_of_getElem? (i := 195) (by decide +kernel))) rfl
theorem km_Root_50 : Cond.methodLink R_Root 50 y_Root_putWord ∈ lw_T := lw_T_of (List.mem_append_right _ (List.mem_of_getElem? (i := 199) (by decide +kernel))) rfl
theorem kc_Root_guessWord : Cond.code y_Root_guessWord b_Root_guessWord 9 (some .long) ∈ lw_T := lw_T_of (List.mem_append_right _ (List.mem_of_getElem? (i := 207) (by decide +kernel))) rfl
theorem ks_Root_guessWord : Cond.static y_Root_guessWord ∈ lw_T := lw_T_of (List.mem_append_right _ (List.mem_of_getElem? (i := 206) (by decide +kernel))) rfl
theorem km_Root_73 : Cond.methodLink R_Root 73 y_Rows_halved ∈ lw_T := lw_T_of (List.mem_append_right _ (List.mem_of_getElem? (i := 208) (by decide +kernel))) rfl
theorem km_Root_77 : Cond.methodLink R_Root 77 y_Rows_guess ∈ lw_T := lw_T_of (List.mem_append_right _ (List.mem_of_getElem? (i := 211) (by decide +kernel))) rfl
theorem kc_Root_nextWord : Cond.code y_Root_nextWord b_Root_nextWord 11 none ∈ lw_T := lw_T_of (List.mem_append_right _ (List.mem_of_getElem? (i := 204) (by decide +kernel))) rfl
theorem ks_Root_nextWord : Cond.static y_Root_nextWord ∈ lw_T := lw_T_of (List.mem_append_right _ (List.mem_of_getElem? (i := 203) (by decide +kernel))) rfl
theorem km_Root_60 : Cond.methodLink R_Root 60 y_Root_guessWord ∈ lw_T := lw_T_of (List.mem_append_right _ (List.mem_of_getElem? (i := 205) (by decide +kernel))) rfl
theorem km_Root_64 : Cond.methodLink R_Root 64 y_Rows_takeMultiple ∈ lw_T := lw_T_of (List.mem_append_right _ (List.mem_of_getElem? (i := 212) (by decide +kernel))) rfl
theorem kl_Root_68 : Cond.constantLong R_Root 68 (2) ∈ lw_T := lw_T_of (List.mem_append_right _ (List.mem_of_getElem? (i := 213) (by decide +kernel))) rfl
theorem km_Root_70 : Cond.methodLink R_Root 70 y_Rows_addStretch ∈ lw_T := lw_T_of (List.mem_append_right _ (List.mem_of_getElem? (i := 214) (by decide +kernel))) rfl
theorem kc_Root_putWord : Cond.code y_Root_putWord b_Root_putWord 4 none ∈ lw_T := lw_T_of (List.mem_append_right _ (List.mem_of_getElem? (i := 201) (by decide +kernel))) rfl
theorem ks_Root_putWord : Cond.static y_Root_putWord ∈ lw_T := lw_T_of (List.mem_append_right _ (List.mem_of_getElem? (i := 200) (by decide +kernel))) rfl
theorem kc_Root_rootOfPair : Cond.code y_Root_rootOfPair b_Root_rootOfPair 7 (some .long) ∈ lw_T := lw_T_of (List.mem_append_right _ (List.mem_of_getElem? (i := 197) (by decide +kernel))) rfl
theorem ks_Root_rootOfPair : Cond.static y_Root_rootOfPair ∈ lw_T := lw_T_of (List.mem_append_right _ (List.mem_of_getElem? (i := 196) (by decide +kernel))) rfl
theorem km_Root_54 : Cond.methodLink R_Root 54 y_Rows_isAbove ∈ lw_T := lw_T_of (List.mem_append_right _ (List.mem_of_getElem? (i := 198) (by decide +kernel))) rfl
theorem kc_Root_shiftBack : Cond.code y_Root_shiftBack b_Root_shiftBack 6 none ∈ lw_T := lw_T_of (List.mem_append_right _ (List.mem_of_getElem? (i := 217) (by decide +kernel))) rfl
theorem ks_Root_shiftBack : Cond.static y_Root_shiftBack ∈ lw_T := lw_T_of (List.mem_append_right _ (List.mem_of_getElem? (i := 216) (by decide +kernel))) rfl
theorem km_Root_81 : Cond.methodLink R_Root 81 y_Rows_addMultiple ∈ lw_T := lw_T_of (List.mem_append_right _ (List.mem_of_getElem? (i := 218) (by decide +kernel))) rfl
theorem km_Root_85 : Cond.methodLink R_Root 85 y_Whole_settle ∈ lw_T := lw_T_of (List.mem_append_right _ (List.mem_of_getElem? (i := 219) (by decide +kernel))) rfl
theorem km_Root_89 : Cond.methodLink R_Root 89 y_Whole_becomeShiftedRight ∈ lw_T := lw_T_of (List.mem_append_right _ (List.mem_of_getElem? (i := 220) (by decide +kernel))) rfl
theorem ki_Rows : Cond.initialized R_Rows ∈ lw_T := lw_T_of (List.mem_append_right _ (List.mem_of_getElem? (i := 7) (by decide +kernel))) rfl
theorem kc_Rows_addMultiple : Cond.code y_Rows_addMultiple b_Rows_addMultiple 9 (some .long) ∈ lw_T := lw_T_of (List.mem_append_right _ (List.mem_of_getElem? (i := 143) (by decide +kernel))) rfl
theorem ks_Rows_addMultiple : Cond.static y_Rows_addMultiple ∈ lw_T := lw_T_of (List.mem_append_right _ (List.mem_of_getElem? (i := 142) (by decide +kernel))) rfl
theorem kl_Rows_9 : Cond.constantLong R_Rows 9 (4294967295) ∈ lw_T := lw_T_of (List.mem_append_right _ (List.mem_of_getElem? (i := 144) (by decide +kernel))) rfl
theorem kc_Rows_addStretch : Cond.code y_Rows_addStretch b_Rows_addStretch 10 (some .long) ∈ lw_T := lw_T_of (List.mem_append_right _ (List.mem_of_getElem? (i := 175) (by decide +kernel))) rfl
theorem ks_Rows_addStretch : Cond.static y_Rows_addStretch ∈ lw_T := lw_T_of (List.mem_append_right _ (List.mem_of_getElem? (i := 174) (by decide +kernel))) rfl
theorem kc_Rows_guess : Cond.code y_Rows_guess b_Rows_guess 14 (some .long) ∈ lw_T := lw_T_of (List.mem_append_right _ (List.mem_of_getElem? (i := 161) (by decide +kernel))) rfl
theorem ks_Rows_guess : Cond.static y_Rows_guess ∈ lw_T := lw_T_of (List.mem_append_right _ (List.mem_of_getElem? (i := 160) (by decide +kernel))) rfl
theorem km_Rows_11 : Cond.methodLink R_Rows 11 y_Math_minL ∈ lw_T := lw_T_of (List.mem_append_right _ (List.mem_of_getElem? (i := 162) (by decide +kernel))) rfl
theorem km_Rows_17 : Cond.methodLink R_Rows 17 y_Rows_isAbove ∈ lw_T := lw_T_of (List.mem_append_right _ (List.mem_of_getElem? (i := 165) (by decide +kernel))) rfl
theorem kc_Rows_halved : Cond.code y_Rows_halved b_Rows_halved 2 (some .int) ∈ lw_T := lw_T_of (List.mem_append_right _ (List.mem_of_getElem? (i := 210) (by decide +kernel))) rfl
theorem ks_Rows_halved : Cond.static y_Rows_halved ∈ lw_T := lw_T_of (List.mem_append_right _ (List.mem_of_getElem? (i := 209) (by decide +kernel))) rfl
theorem kc_Rows_isAbove : Cond.code y_Rows_isAbove b_Rows_isAbove 4 (some .boolean) ∈ lw_T := lw_T_of (List.mem_append_right _ (List.mem_of_getElem? (i := 167) (by decide +kernel))) rfl
theorem ks_Rows_isAbove : Cond.static y_Rows_isAbove ∈ lw_T := lw_T_of (List.mem_append_right _ (List.mem_of_getElem? (i := 166) (by decide +kernel))) rfl
theorem kl_Rows_23 : Cond.constantLong R_Rows 23 (-9223372036854775808) ∈ lw_T := lw_T_of (List.mem_append_right _ (List.mem_of_getElem? (i := 168) (by decide +kernel))) rfl
theorem kc_Rows_takeMultiple : Cond.code y_Rows_takeMultiple b_Rows_takeMultiple 12 (some .long) ∈ lw_T := lw_T_of (List.mem_append_right _ (List.mem_of_getElem? (i := 172) (by decide +kernel))) rfl
theorem ks_Rows_takeMultiple : Cond.static y_Rows_takeMultiple ∈ lw_T := lw_T_of (List.mem_append_right _ (List.mem_of_getElem? (i := 171) (by decide +kernel))) rfl
theorem ki_Whole : Cond.initialized R_Whole ∈ lw_T := lw_T_of (List.mem_append_right _ (List.mem_of_getElem? (i := 2) (by decide +kernel))) rfl
theorem kc_Whole_become : Cond.code y_Whole_become b_Whole_become 2 none ∈ lw_T := lw_T_of (List.mem_append_right _ (List.mem_of_getElem? (i := 96) (by decide +kernel))) rfl
theorem kn_Whole_become : Cond.instanceMethod y_Whole_become ∈ lw_T := lw_T_of (List.mem_append_right _ (List.mem_of_getElem? (i := 94) (by decide +kernel))) rfl
theorem ke_Whole_become : Cond.selects y_Whole_become.cls y_Whole_become y_Whole_become ∈ lw_T := lw_T_of (List.mem_append_right _ (List.mem_of_getElem? (i := 95) (by decide +kernel))) rfl
theorem kf_Whole_9 : Cond.fieldLink R_Whole 9 "WholeMill$Whole" "words" "[I" ∈ lw_T := lw_T_of (List.mem_append_right _ (List.mem_of_getElem? (i := 25) (by decide +kernel))) rfl
theorem kf_Whole_15 : Cond.fieldLink R_Whole 15 "WholeMill$Whole" "length" "I" ∈ lw_T := lw_T_of (List.mem_append_right _ (List.mem_of_getElem? (i := 29) (by decide +kernel))) rfl
theorem km_Whole_23 : Cond.methodLink R_Whole 23 arraycopyName ∈ lw_T := lw_T_of (List.mem_append_right _ (List.mem_of_getElem? (i := 97) (by decide +kernel))) rfl
theorem km_Whole_19 : Cond.methodLink R_Whole 19 y_Whole_settle ∈ lw_T := lw_T_of (List.mem_append_right _ (List.mem_of_getElem? (i := 76) (by decide +kernel))) rfl
theorem kc_Whole_becomeDifference : Cond.code y_Whole_becomeDifference b_Whole_becomeDifference 9 none ∈ lw_T := lw_T_of (List.mem_append_right _ (List.mem_of_getElem? (i := 131) (by decide +kernel))) rfl
theorem kn_Whole_becomeDifference : Cond.instanceMethod y_Whole_becomeDifference ∈ lw_T := lw_T_of (List.mem_append_right _ (List.mem_of_getElem? (i := 129) (by decide +kernel))) rfl
theorem ke_Whole_becomeDifference : Cond.selects y_Whole_becomeDifference.cls y_Whole_becomeDifference y_Whole_becomeDifference ∈ lw_T := lw_T_of (List.mem_append_right _ (List.mem_of_getElem? (i := 130) (by decide +kernel))) rfl
theorem kl_Whole_35 : Cond.constantLong R_Whole 35 (4294967295) ∈ lw_T := lw_T_of (List.mem_append_right _ (List.mem_of_getElem? (i := 80) (by decide +kernel))) rfl
theorem kc_Whole_becomePairs : Cond.code y_Whole_becomePairs b_Whole_becomePairs 5 none ∈ lw_T := lw_T_of (List.mem_append_right _ (List.mem_of_getElem? (i := 107) (by decide +kernel))) rfl
theorem kn_Whole_becomePairs : Cond.instanceMethod y_Whole_becomePairs ∈ lw_T := lw_T_of (List.mem_append_right _ (List.mem_of_getElem? (i := 105) (by decide +kernel))) rfl
theorem ke_Whole_becomePairs : Cond.selects y_Whole_becomePairs.cls y_Whole_becomePairs y_Whole_becomePairs ∈ lw_T := lw_T_of (List.mem_append_right _ (List.mem_of_getElem? (i := 106) (by decide +kernel))) rfl
theorem kc_Whole_becomeProduct : Cond.code y_Whole_becomeProduct b_Whole_becomeProduct 6 none ∈ lw_T := lw_T_of (List.mem_append_right _ (List.mem_of_getElem? (i := 140) (by decide +kernel))) rfl
theorem kn_Whole_becomeProduct : Cond.instanceMethod y_Whole_becomeProduct ∈ lw_T := lw_T_of (List.mem_append_right _ (List.mem_of_getElem? (i := 138) (by decide +kernel))) rfl
theorem ke_Whole_becomeProduct : Cond.selects y_Whole_becomeProduct.cls y_Whole_becomeProduct y_Whole_becomeProduct ∈ lw_T := lw_T_of (List.mem_append_right _ (List.mem_of_getElem? (i := 139) (by decide +kernel))) rfl
theorem km_Whole_37 : Cond.methodLink R_Whole 37 y_Whole_clear ∈ lw_T := lw_T_of (List.mem_append_right _ (List.mem_of_getElem? (i := 72) (by decide +kernel))) rfl
theorem km_Whole_40 : Cond.methodLink R_Whole 40 y_Rows_addMultiple ∈ lw_T := lw_T_of (List.mem_append_right _ (List.mem_of_getElem? (i := 141) (by decide +kernel))) rfl
theorem kc_Whole_becomeShiftedLeft : Cond.code y_Whole_becomeShiftedLeft b_Whole_becomeShiftedLeft 8 none ∈ lw_T := lw_T_of (List.mem_append_right _ (List.mem_of_getElem? (i := 71) (by decide +kernel))) rfl
theorem kn_Whole_becomeShiftedLeft : Cond.instanceMethod y_Whole_becomeShiftedLeft ∈ lw_T := lw_T_of (List.mem_append_right _ (List.mem_of_getElem? (i := 69) (by decide +kernel))) rfl
theorem ke_Whole_becomeShiftedLeft : Cond.selects y_Whole_becomeShiftedLeft.cls y_Whole_becomeShiftedLeft y_Whole_becomeShiftedLeft ∈ lw_T := lw_T_of (List.mem_append_right _ (List.mem_of_getElem? (i := 70) (by decide +kernel))) rfl
theorem kc_Whole_becomeShiftedRight : Cond.code y_Whole_becomeShiftedRight b_Whole_becomeShiftedRight 9 none ∈ lw_T := lw_T_of (List.mem_append_right _ (List.mem_of_getElem? (i := 180) (by decide +kernel))) rfl
theorem kn_Whole_becomeShiftedRight : Cond.instanceMethod y_Whole_becomeShiftedRight ∈ lw_T := lw_T_of (List.mem_append_right _ (List.mem_of_getElem? (i := 178) (by decide +kernel))) rfl
theorem ke_Whole_becomeShiftedRight : Cond.selects y_Whole_becomeShiftedRight.cls y_Whole_becomeShiftedRight y_Whole_becomeShiftedRight ∈ lw_T := lw_T_of (List.mem_append_right _ (List.mem_of_getElem? (i := 179) (by decide +kernel))) rfl
theorem km_Whole_29 : Cond.methodLink R_Whole 29 y_Math_max ∈ lw_T := lw_T_of (List.mem_append_right _ (List.mem_of_getElem? (i := 85) (by decide +kernel))) rfl
theorem kc_Whole_becomeSum : Cond.code y_Whole_becomeSum b_Whole_becomeSum 7 none ∈ lw_T := lw_T_of (List.mem_append_right _ (List.mem_of_getElem? (i := 119) (by decide +kernel))) rfl
theorem kn_Whole_becomeSum : Cond.instanceMethod y_Whole_becomeSum ∈ lw_T := lw_T_of (List.mem_append_right _ (List.mem_of_getElem? (i := 117) (by decide +kernel))) rfl
theorem ke_Whole_becomeSum : Cond.selects y_Whole_becomeSum.cls y_Whole_becomeSum y_Whole_becomeSum ∈ lw_T := lw_T_of (List.mem_append_right _ (List.mem_of_getElem? (i := 118) (by decide +kernel))) rfl
theorem kc_Whole_clear : Cond.code y_Whole_clear b_Whole_clear 1 none ∈ lw_T := lw_T_of (List.mem_append_right _ (List.mem_of_getElem? (i := 75) (by decide +kernel))) rfl
theorem kn_Whole_clear : Cond.instanceMethod y_Whole_clear ∈ lw_T := lw_T_of (List.mem_append_right _ (List.mem_of_getElem? (i := 73) (by decide +kernel))) rfl
theorem ke_Whole_clear : Cond.selects y_Whole_clear.cls y_Whole_clear y_Whole_clear ∈ lw_T := lw_T_of (List.mem_append_right _ (List.mem_of_getElem? (i := 74) (by decide +kernel))) rfl
theorem kc_Whole_countOnes : Cond.code y_Whole_countOnes b_Whole_countOnes 3 (some .int) ∈ lw_T := lw_T_of (List.mem_append_right _ (List.mem_of_getElem? (i := 261) (by decide +kernel))) rfl
theorem kn_Whole_countOnes : Cond.instanceMethod y_Whole_countOnes ∈ lw_T := lw_T_of (List.mem_append_right _ (List.mem_of_getElem? (i := 259) (by decide +kernel))) rfl
theorem ke_Whole_countOnes : Cond.selects y_Whole_countOnes.cls y_Whole_countOnes y_Whole_countOnes ∈ lw_T := lw_T_of (List.mem_append_right _ (List.mem_of_getElem? (i := 260) (by decide +kernel))) rfl
theorem km_Whole_56 : Cond.methodLink R_Whole 56 y_Int_bitCount ∈ lw_T := lw_T_of (List.mem_append_right _ (List.mem_of_getElem? (i := 262) (by decide +kernel))) rfl
theorem kc_Whole_fillLowestPair : Cond.code y_Whole_fillLowestPair b_Whole_fillLowestPair 3 none ∈ lw_T := lw_T_of (List.mem_append_right _ (List.mem_of_getElem? (i := 84) (by decide +kernel))) rfl
theorem kn_Whole_fillLowestPair : Cond.instanceMethod y_Whole_fillLowestPair ∈ lw_T := lw_T_of (List.mem_append_right _ (List.mem_of_getElem? (i := 82) (by decide +kernel))) rfl
theorem ke_Whole_fillLowestPair : Cond.selects y_Whole_fillLowestPair.cls y_Whole_fillLowestPair y_Whole_fillLowestPair ∈ lw_T := lw_T_of (List.mem_append_right _ (List.mem_of_getElem? (i := 83) (by decide +kernel))) rfl
theorem kc_Whole_init : Cond.code y_Whole_init b_Whole_init 1 none ∈ lw_T := lw_T_of (List.mem_append_right _ (List.mem_of_getElem? (i := 23) (by decide +kernel))) rfl
theorem kn_Whole_init : Cond.instanceMethod y_Whole_init ∈ lw_T := lw_T_of (List.mem_append_right _ (List.mem_of_getElem? (i := 22) (by decide +kernel))) rfl
theorem km_Whole_3 : Cond.methodLink R_Whole 3 objectInit ∈ lw_T := lw_T_of (List.mem_append_right _ (List.mem_of_getElem? (i := 24) (by decide +kernel))) rfl
theorem kc_Whole_keepLowest : Cond.code y_Whole_keepLowest b_Whole_keepLowest 3 none ∈ lw_T := lw_T_of (List.mem_append_right _ (List.mem_of_getElem? (i := 240) (by decide +kernel))) rfl
theorem kn_Whole_keepLowest : Cond.instanceMethod y_Whole_keepLowest ∈ lw_T := lw_T_of (List.mem_append_right _ (List.mem_of_getElem? (i := 238) (by decide +kernel))) rfl
theorem ke_Whole_keepLowest : Cond.selects y_Whole_keepLowest.cls y_Whole_keepLowest y_Whole_keepLowest ∈ lw_T := lw_T_of (List.mem_append_right _ (List.mem_of_getElem? (i := 239) (by decide +kernel))) rfl
theorem km_Whole_46 : Cond.methodLink R_Whole 46 y_Whole_size ∈ lw_T := lw_T_of (List.mem_append_right _ (List.mem_of_getElem? (i := 241) (by decide +kernel))) rfl
theorem kc_Whole_lowestOne : Cond.code y_Whole_lowestOne b_Whole_lowestOne 2 (some .int) ∈ lw_T := lw_T_of (List.mem_append_right _ (List.mem_of_getElem? (i := 275) (by decide +kernel))) rfl
theorem kn_Whole_lowestOne : Cond.instanceMethod y_Whole_lowestOne ∈ lw_T := lw_T_of (List.mem_append_right _ (List.mem_of_getElem? (i := 273) (by decide +kernel))) rfl
theorem ke_Whole_lowestOne : Cond.selects y_Whole_lowestOne.cls y_Whole_lowestOne y_Whole_lowestOne ∈ lw_T := lw_T_of (List.mem_append_right _ (List.mem_of_getElem? (i := 274) (by decide +kernel))) rfl
theorem km_Whole_59 : Cond.methodLink R_Whole 59 y_Int_numberOfTrailingZeros ∈ lw_T := lw_T_of (List.mem_append_right _ (List.mem_of_getElem? (i := 276) (by decide +kernel))) rfl
theorem kc_Whole_order : Cond.code y_Whole_order b_Whole_order 3 (some .int) ∈ lw_T := lw_T_of (List.mem_append_right _ (List.mem_of_getElem? (i := 127) (by decide +kernel))) rfl
theorem kn_Whole_order : Cond.instanceMethod y_Whole_order ∈ lw_T := lw_T_of (List.mem_append_right _ (List.mem_of_getElem? (i := 125) (by decide +kernel))) rfl
theorem ke_Whole_order : Cond.selects y_Whole_order.cls y_Whole_order y_Whole_order ∈ lw_T := lw_T_of (List.mem_append_right _ (List.mem_of_getElem? (i := 126) (by decide +kernel))) rfl
theorem kc_Whole_remainder : Cond.code y_Whole_remainder b_Whole_remainder 5 (some .int) ∈ lw_T := lw_T_of (List.mem_append_right _ (List.mem_of_getElem? (i := 286) (by decide +kernel))) rfl
theorem kn_Whole_remainder : Cond.instanceMethod y_Whole_remainder ∈ lw_T := lw_T_of (List.mem_append_right _ (List.mem_of_getElem? (i := 284) (by decide +kernel))) rfl
theorem ke_Whole_remainder : Cond.selects y_Whole_remainder.cls y_Whole_remainder y_Whole_remainder ∈ lw_T := lw_T_of (List.mem_append_right _ (List.mem_of_getElem? (i := 285) (by decide +kernel))) rfl
theorem kc_Whole_settle : Cond.code y_Whole_settle b_Whole_settle 3 none ∈ lw_T := lw_T_of (List.mem_append_right _ (List.mem_of_getElem? (i := 79) (by decide +kernel))) rfl
theorem kn_Whole_settle : Cond.instanceMethod y_Whole_settle ∈ lw_T := lw_T_of (List.mem_append_right _ (List.mem_of_getElem? (i := 77) (by decide +kernel))) rfl
theorem ke_Whole_settle : Cond.selects y_Whole_settle.cls y_Whole_settle y_Whole_settle ∈ lw_T := lw_T_of (List.mem_append_right _ (List.mem_of_getElem? (i := 78) (by decide +kernel))) rfl
theorem kc_Whole_size : Cond.code y_Whole_size b_Whole_size 1 (some .int) ∈ lw_T := lw_T_of (List.mem_append_right _ (List.mem_of_getElem? (i := 62) (by decide +kernel))) rfl
theorem kn_Whole_size : Cond.instanceMethod y_Whole_size ∈ lw_T := lw_T_of (List.mem_append_right _ (List.mem_of_getElem? (i := 60) (by decide +kernel))) rfl
theorem ke_Whole_size : Cond.selects y_Whole_size.cls y_Whole_size y_Whole_size ∈ lw_T := lw_T_of (List.mem_append_right _ (List.mem_of_getElem? (i := 61) (by decide +kernel))) rfl
theorem km_Whole_50 : Cond.methodLink R_Whole 50 y_Int_numberOfLeadingZeros ∈ lw_T := lw_T_of (List.mem_append_right _ (List.mem_of_getElem? (i := 63) (by decide +kernel))) rfl
theorem ki_Sys : Cond.initialized R_Sys ∈ lw_T := lw_T_of (List.mem_append_right _ (List.mem_of_getElem? (i := 6) (by decide +kernel))) rfl
theorem ks_copy : Cond.static arraycopyName ∈ lw_T := lw_T_of (List.mem_append_right _ (List.mem_of_getElem? (i := 98) (by decide +kernel))) rfl
theorem kn_copy : Cond.native arraycopyName ∈ lw_T := lw_T_of (List.mem_append_right _ (List.mem_of_getElem? (i := 99) (by decide +kernel))) rfl
