theorem tc_X2_init : Cond.code yX2_init cX2_init 1 none ∈ TB := List.mem_filter.mpr ⟨List.mem_append_right _ (List.mem_of_getElem? (i := 18) (by decide +kernel)), by decide +kernel⟩
theorem tc_Obj : Cond.code objectInit ⟨#[0xb1]⟩ 1 none ∈ TB := List.mem_filter.mpr ⟨List.mem_append_right _ (List.mem_of_getElem? (i := 21) (by decide +kernel)), by decide +kernel⟩
theorem tc_Jx4a65c_init_da8c8 : Cond.code yJx4a65c_init_da8c8 cJx4a65c_init_da8c8 1 none ∈ TB := List.mem_filter.mpr ⟨List.mem_append_right _ (List.mem_of_getElem? (i := 26) (by decide +kernel)), by decide +kernel⟩
theorem tc_Jxc12de_init_da8c8 : Cond.code yJxc12de_init_da8c8 cJxc12de_init_da8c8 1 none ∈ TB := List.mem_filter.mpr ⟨List.mem_append_right _ (List.mem_of_getElem? (i := 29) (by decide +kernel)), by decide +kernel⟩
theorem tc_Jxa1e45_init_da8c8 : Cond.code yJxa1e45_init_da8c8 cJxa1e45_init_da8c8 1 none ∈ TB := List.mem_filter.mpr ⟨List.mem_append_right _ (List.mem_of_getElem? (i := 32) (by decide +kernel)), by decide +kernel⟩
theorem tc_X2_gear : Cond.code yX2_gear cX2_gear 1 (some .int) ∈ TB := List.mem_filter.mpr ⟨List.mem_append_right _ (List.mem_of_getElem? (i := 70) (by decide +kernel)), by decide +kernel⟩
theorem tc_Jx4a65c_size_8abf5 : Cond.code yJx4a65c_size_8abf5 cJx4a65c_size_8abf5 1 (some .int) ∈ TB := List.mem_filter.mpr ⟨List.mem_append_right _ (List.mem_of_getElem? (i := 74) (by decide +kernel)), by decide +kernel⟩
theorem tc_X0_init : Cond.code yX0_init cX0_init 1 none ∈ TB := List.mem_filter.mpr ⟨List.mem_append_right _ (List.mem_of_getElem? (i := 79) (by decide +kernel)), by decide +kernel⟩
theorem tc_X1_init : Cond.code yX1_init cX1_init 1 none ∈ TB := List.mem_filter.mpr ⟨List.mem_append_right _ (List.mem_of_getElem? (i := 85) (by decide +kernel)), by decide +kernel⟩
theorem tc_X0_reset : Cond.code yX0_reset cX0_reset 1 none ∈ TB := List.mem_filter.mpr ⟨List.mem_append_right _ (List.mem_of_getElem? (i := 124) (by decide +kernel)), by decide +kernel⟩
theorem tc_X1_reset : Cond.code yX1_reset cX1_reset 1 none ∈ TB := List.mem_filter.mpr ⟨List.mem_append_right _ (List.mem_of_getElem? (i := 128) (by decide +kernel)), by decide +kernel⟩
theorem tc_X1_endFade : Cond.code yX1_endFade cX1_endFade 1 none ∈ TB := List.mem_filter.mpr ⟨List.mem_append_right _ (List.mem_of_getElem? (i := 132) (by decide +kernel)), by decide +kernel⟩
theorem tc_J7_fill_53178 : Cond.code yJ7_fill_53178 cJ7_fill_53178 4 none ∈ TB := List.mem_filter.mpr ⟨List.mem_append_right _ (List.mem_of_getElem? (i := 135) (by decide +kernel)), by decide +kernel⟩
theorem tc_X0_forgetSearch : Cond.code yX0_forgetSearch cX0_forgetSearch 1 none ∈ TB := List.mem_filter.mpr ⟨List.mem_append_right _ (List.mem_of_getElem? (i := 140) (by decide +kernel)), by decide +kernel⟩
theorem tc_Jx4a65c_add_9ea2d : Cond.code yJx4a65c_add_9ea2d cJx4a65c_add_9ea2d 2 (some .boolean) ∈ TB := List.mem_filter.mpr ⟨List.mem_append_right _ (List.mem_of_getElem? (i := 185) (by decide +kernel)), by decide +kernel⟩
theorem tc_Jx4a65c_add_72be8 : Cond.code yJx4a65c_add_72be8 cJx4a65c_add_72be8 4 none ∈ TB := List.mem_filter.mpr ⟨List.mem_append_right _ (List.mem_of_getElem? (i := 189) (by decide +kernel)), by decide +kernel⟩
theorem tc_Jx4a65c_grow_d5877 : Cond.code yJx4a65c_grow_d5877 cJx4a65c_grow_d5877 1 (some (.array (.object "java/lang/Object"))) ∈ TB := List.mem_filter.mpr ⟨List.mem_append_right _ (List.mem_of_getElem? (i := 193) (by decide +kernel)), by decide +kernel⟩
theorem tc_Jx4a65c_grow_92f84 : Cond.code yJx4a65c_grow_92f84 cJx4a65c_grow_92f84 4 (some (.array (.object "java/lang/Object"))) ∈ TB := List.mem_filter.mpr ⟨List.mem_append_right _ (List.mem_of_getElem? (i := 197) (by decide +kernel)), by decide +kernel⟩
theorem tc_J8_newLength_cabcc : Cond.code yJ8_newLength_cabcc cJ8_newLength_cabcc 4 (some .int) ∈ TB := List.mem_filter.mpr ⟨List.mem_append_right _ (List.mem_of_getElem? (i := 200) (by decide +kernel)), by decide +kernel⟩
theorem tc_J9_max_7cf53 : Cond.code yJ9_max_7cf53 cJ9_max_7cf53 2 (some .int) ∈ TB := List.mem_filter.mpr ⟨List.mem_append_right _ (List.mem_of_getElem? (i := 203) (by decide +kernel)), by decide +kernel⟩
theorem tc_J8_hugeLength_7cf53 : Cond.code yJ8_hugeLength_7cf53 cJ8_hugeLength_7cf53 3 (some .int) ∈ TB := List.mem_filter.mpr ⟨List.mem_append_right _ (List.mem_of_getElem? (i := 207) (by decide +kernel)), by decide +kernel⟩
theorem tc_J7_copyOf_1904c : Cond.code yJ7_copyOf_1904c cJ7_copyOf_1904c 2 (some (.array (.object "java/lang/Object"))) ∈ TB := List.mem_filter.mpr ⟨List.mem_append_right _ (List.mem_of_getElem? (i := 210) (by decide +kernel)), by decide +kernel⟩
theorem tc_J7_copyOf_6403c : Cond.code yJ7_copyOf_6403c cJ7_copyOf_6403c 4 (some (.array (.object "java/lang/Object"))) ∈ TB := List.mem_filter.mpr ⟨List.mem_append_right _ (List.mem_of_getElem? (i := 222) (by decide +kernel)), by decide +kernel⟩
theorem tc_J9_min_7cf53 : Cond.code yJ9_min_7cf53 cJ9_min_7cf53 2 (some .int) ∈ TB := List.mem_filter.mpr ⟨List.mem_append_right _ (List.mem_of_getElem? (i := 228) (by decide +kernel)), by decide +kernel⟩
theorem tc_X2_give : Cond.code yX2_give cX2_give 3 (some .boolean) ∈ TB := List.mem_filter.mpr ⟨List.mem_append_right _ (List.mem_of_getElem? (i := 237) (by decide +kernel)), by decide +kernel⟩
theorem tc_X2_isGear : Cond.code yX2_isGear cX2_isGear 2 (some .boolean) ∈ TB := List.mem_filter.mpr ⟨List.mem_append_right _ (List.mem_of_getElem? (i := 241) (by decide +kernel)), by decide +kernel⟩
theorem tc_Jx4a65c_get_915e3 : Cond.code yJx4a65c_get_915e3 cJx4a65c_get_915e3 2 (some (.object "java/lang/Object")) ∈ TB := List.mem_filter.mpr ⟨List.mem_append_right _ (List.mem_of_getElem? (i := 246) (by decide +kernel)), by decide +kernel⟩
theorem tc_J15_checkIndex_7cf53 : Cond.code yJ15_checkIndex_7cf53 cJ15_checkIndex_7cf53 2 (some .int) ∈ TB := List.mem_filter.mpr ⟨List.mem_append_right _ (List.mem_of_getElem? (i := 249) (by decide +kernel)), by decide +kernel⟩
theorem tc_J3_checkIndex_8e157 : Cond.code yJ3_checkIndex_8e157 cJ3_checkIndex_8e157 3 (some .int) ∈ TB := List.mem_filter.mpr ⟨List.mem_append_right _ (List.mem_of_getElem? (i := 252) (by decide +kernel)), by decide +kernel⟩
theorem tc_Jx4a65c_elementData_915e3 : Cond.code yJx4a65c_elementData_915e3 cJx4a65c_elementData_915e3 2 (some (.object "java/lang/Object")) ∈ TB := List.mem_filter.mpr ⟨List.mem_append_right _ (List.mem_of_getElem? (i := 256) (by decide +kernel)), by decide +kernel⟩
theorem tc_X2_send : Cond.code yX2_send cX2_send 4 (some .int) ∈ TB := List.mem_filter.mpr ⟨List.mem_append_right _ (List.mem_of_getElem? (i := 260) (by decide +kernel)), by decide +kernel⟩
theorem tc_X2_isByte : Cond.code yX2_isByte cX2_isByte 1 (some .boolean) ∈ TB := List.mem_filter.mpr ⟨List.mem_append_right _ (List.mem_of_getElem? (i := 263) (by decide +kernel)), by decide +kernel⟩
theorem tc_X2_sendSpecial : Cond.code yX2_sendSpecial cX2_sendSpecial 6 (some .int) ∈ TB := List.mem_filter.mpr ⟨List.mem_append_right _ (List.mem_of_getElem? (i := 267) (by decide +kernel)), by decide +kernel⟩
theorem tc_X2_countFrame : Cond.code yX2_countFrame cX2_countFrame 4 (some .boolean) ∈ TB := List.mem_filter.mpr ⟨List.mem_append_right _ (List.mem_of_getElem? (i := 271) (by decide +kernel)), by decide +kernel⟩
theorem tc_X0_hearSpecial : Cond.code yX0_hearSpecial cX0_hearSpecial 4 (some .int) ∈ TB := List.mem_filter.mpr ⟨List.mem_append_right _ (List.mem_of_getElem? (i := 275) (by decide +kernel)), by decide +kernel⟩
theorem tc_X0_isToInitialise : Cond.code yX0_isToInitialise cX0_isToInitialise 2 (some .boolean) ∈ TB := List.mem_filter.mpr ⟨List.mem_append_right _ (List.mem_of_getElem? (i := 282) (by decide +kernel)), by decide +kernel⟩
theorem tc_X0_isShortOf : Cond.code yX0_isShortOf cX0_isShortOf 2 (some .boolean) ∈ TB := List.mem_filter.mpr ⟨List.mem_append_right _ (List.mem_of_getElem? (i := 286) (by decide +kernel)), by decide +kernel⟩
theorem tc_X0_hearInSearch : Cond.code yX0_hearInSearch cX0_hearInSearch 3 (some .int) ∈ TB := List.mem_filter.mpr ⟨List.mem_append_right _ (List.mem_of_getElem? (i := 290) (by decide +kernel)), by decide +kernel⟩
theorem tc_X0_yesIf : Cond.code yX0_yesIf cX0_yesIf 1 (some .int) ∈ TB := List.mem_filter.mpr ⟨List.mem_append_right _ (List.mem_of_getElem? (i := 293) (by decide +kernel)), by decide +kernel⟩
theorem tc_X0_takeShort : Cond.code yX0_takeShort cX0_takeShort 2 none ∈ TB := List.mem_filter.mpr ⟨List.mem_append_right _ (List.mem_of_getElem? (i := 297) (by decide +kernel)), by decide +kernel⟩
theorem tc_X2_joined : Cond.code yX2_joined cX2_joined 2 (some .int) ∈ TB := List.mem_filter.mpr ⟨List.mem_append_right _ (List.mem_of_getElem? (i := 300) (by decide +kernel)), by decide +kernel⟩
theorem tc_X2_sendAddressed : Cond.code yX2_sendAddressed cX2_sendAddressed 8 (some .int) ∈ TB := List.mem_filter.mpr ⟨List.mem_append_right _ (List.mem_of_getElem? (i := 304) (by decide +kernel)), by decide +kernel⟩
theorem tc_X0_isMeantBy : Cond.code yX0_isMeantBy cX0_isMeantBy 2 (some .boolean) ∈ TB := List.mem_filter.mpr ⟨List.mem_append_right _ (List.mem_of_getElem? (i := 308) (by decide +kernel)), by decide +kernel⟩
theorem tc_X0_hearLevel : Cond.code yX0_hearLevel cX0_hearLevel 2 none ∈ TB := List.mem_filter.mpr ⟨List.mem_append_right _ (List.mem_of_getElem? (i := 312) (by decide +kernel)), by decide +kernel⟩
theorem tc_X1_goTo : Cond.code yX1_goTo cX1_goTo 3 none ∈ TB := List.mem_filter.mpr ⟨List.mem_append_right _ (List.mem_of_getElem? (i := 317) (by decide +kernel)), by decide +kernel⟩
theorem tc_X1_offOrClamped : Cond.code yX1_offOrClamped cX1_offOrClamped 2 (some .int) ∈ TB := List.mem_filter.mpr ⟨List.mem_append_right _ (List.mem_of_getElem? (i := 321) (by decide +kernel)), by decide +kernel⟩
theorem tc_X1_clamped : Cond.code yX1_clamped cX1_clamped 2 (some .int) ∈ TB := List.mem_filter.mpr ⟨List.mem_append_right _ (List.mem_of_getElem? (i := 325) (by decide +kernel)), by decide +kernel⟩
theorem tc_X1_setLevel : Cond.code yX1_setLevel cX1_setLevel 2 none ∈ TB := List.mem_filter.mpr ⟨List.mem_append_right _ (List.mem_of_getElem? (i := 329) (by decide +kernel)), by decide +kernel⟩
theorem tc_X0_hearCommand : Cond.code yX0_hearCommand cX0_hearCommand 3 (some .int) ∈ TB := List.mem_filter.mpr ⟨List.mem_append_right _ (List.mem_of_getElem? (i := 335) (by decide +kernel)), by decide +kernel⟩
theorem tc_X0_answerTo : Cond.code yX0_answerTo cX0_answerTo 2 (some .int) ∈ TB := List.mem_filter.mpr ⟨List.mem_append_right _ (List.mem_of_getElem? (i := 339) (by decide +kernel)), by decide +kernel⟩
theorem tc_X0_status : Cond.code yX0_status cX0_status 4 (some .int) ∈ TB := List.mem_filter.mpr ⟨List.mem_append_right _ (List.mem_of_getElem? (i := 343) (by decide +kernel)), by decide +kernel⟩
theorem tc_X1_isFading : Cond.code yX1_isFading cX1_isFading 1 (some .boolean) ∈ TB := List.mem_filter.mpr ⟨List.mem_append_right _ (List.mem_of_getElem? (i := 347) (by decide +kernel)), by decide +kernel⟩
theorem tc_X0_light : Cond.code yX0_light cX0_light 2 none ∈ TB := List.mem_filter.mpr ⟨List.mem_append_right _ (List.mem_of_getElem? (i := 351) (by decide +kernel)), by decide +kernel⟩
theorem tc_X1_rateStep : Cond.code yX1_rateStep cX1_rateStep 1 (some .int) ∈ TB := List.mem_filter.mpr ⟨List.mem_append_right _ (List.mem_of_getElem? (i := 356) (by decide +kernel)), by decide +kernel⟩
theorem tc_X1_moveBy : Cond.code yX1_moveBy cX1_moveBy 2 none ∈ TB := List.mem_filter.mpr ⟨List.mem_append_right _ (List.mem_of_getElem? (i := 362) (by decide +kernel)), by decide +kernel⟩
theorem tc_X1_stepDownOrOff : Cond.code yX1_stepDownOrOff cX1_stepDownOrOff 1 none ∈ TB := List.mem_filter.mpr ⟨List.mem_append_right _ (List.mem_of_getElem? (i := 366) (by decide +kernel)), by decide +kernel⟩
theorem tc_X1_onOrStepUp : Cond.code yX1_onOrStepUp cX1_onOrStepUp 1 none ∈ TB := List.mem_filter.mpr ⟨List.mem_append_right _ (List.mem_of_getElem? (i := 370) (by decide +kernel)), by decide +kernel⟩
theorem tc_X0_goToUnlessUnset : Cond.code yX0_goToUnlessUnset cX0_goToUnlessUnset 2 none ∈ TB := List.mem_filter.mpr ⟨List.mem_append_right _ (List.mem_of_getElem? (i := 374) (by decide +kernel)), by decide +kernel⟩
theorem tc_X0_configure : Cond.code yX0_configure cX0_configure 2 none ∈ TB := List.mem_filter.mpr ⟨List.mem_append_right _ (List.mem_of_getElem? (i := 378) (by decide +kernel)), by decide +kernel⟩
theorem tc_X1_setMost : Cond.code yX1_setMost cX1_setMost 2 none ∈ TB := List.mem_filter.mpr ⟨List.mem_append_right _ (List.mem_of_getElem? (i := 382) (by decide +kernel)), by decide +kernel⟩
theorem tc_X1_setLeast : Cond.code yX1_setLeast cX1_setLeast 2 none ∈ TB := List.mem_filter.mpr ⟨List.mem_append_right _ (List.mem_of_getElem? (i := 388) (by decide +kernel)), by decide +kernel⟩
theorem tc_X1_setFade : Cond.code yX1_setFade cX1_setFade 2 none ∈ TB := List.mem_filter.mpr ⟨List.mem_append_right _ (List.mem_of_getElem? (i := 392) (by decide +kernel)), by decide +kernel⟩
theorem tc_X1_setRate : Cond.code yX1_setRate cX1_setRate 2 none ∈ TB := List.mem_filter.mpr ⟨List.mem_append_right _ (List.mem_of_getElem? (i := 396) (by decide +kernel)), by decide +kernel⟩
theorem tc_X0_configureNumbered : Cond.code yX0_configureNumbered cX0_configureNumbered 3 none ∈ TB := List.mem_filter.mpr ⟨List.mem_append_right _ (List.mem_of_getElem? (i := 400) (by decide +kernel)), by decide +kernel⟩
theorem tc_X2_tick : Cond.code yX2_tick cX2_tick 5 (some .int) ∈ TB := List.mem_filter.mpr ⟨List.mem_append_right _ (List.mem_of_getElem? (i := 404) (by decide +kernel)), by decide +kernel⟩
theorem tc_X1_passTicks : Cond.code yX1_passTicks cX1_passTicks 3 none ∈ TB := List.mem_filter.mpr ⟨List.mem_append_right _ (List.mem_of_getElem? (i := 408) (by decide +kernel)), by decide +kernel⟩
theorem tc_X2_power : Cond.code yX2_power cX2_power 2 none ∈ TB := List.mem_filter.mpr ⟨List.mem_append_right _ (List.mem_of_getElem? (i := 413) (by decide +kernel)), by decide +kernel⟩
theorem tc_X0_startAgain : Cond.code yX0_startAgain cX0_startAgain 1 none ∈ TB := List.mem_filter.mpr ⟨List.mem_append_right _ (List.mem_of_getElem? (i := 417) (by decide +kernel)), by decide +kernel⟩
theorem tc_X2_fail : Cond.code yX2_fail cX2_fail 3 none ∈ TB := List.mem_filter.mpr ⟨List.mem_append_right _ (List.mem_of_getElem? (i := 422) (by decide +kernel)), by decide +kernel⟩
theorem tc_X2_commission : Cond.code yX2_commission cX2_commission 3 (some .int) ∈ TB := List.mem_filter.mpr ⟨List.mem_append_right _ (List.mem_of_getElem? (i := 427) (by decide +kernel)), by decide +kernel⟩
theorem tc_X2_isAnyLeft : Cond.code yX2_isAnyLeft cX2_isAnyLeft 1 (some .boolean) ∈ TB := List.mem_filter.mpr ⟨List.mem_append_right _ (List.mem_of_getElem? (i := 431) (by decide +kernel)), by decide +kernel⟩
theorem tc_X2_sendSearch : Cond.code yX2_sendSearch cX2_sendSearch 2 none ∈ TB := List.mem_filter.mpr ⟨List.mem_append_right _ (List.mem_of_getElem? (i := 435) (by decide +kernel)), by decide +kernel⟩
theorem tc_X2_isAnyWithinSearch : Cond.code yX2_isAnyWithinSearch cX2_isAnyWithinSearch 1 (some .boolean) ∈ TB := List.mem_filter.mpr ⟨List.mem_append_right _ (List.mem_of_getElem? (i := 439) (by decide +kernel)), by decide +kernel⟩
theorem tc_X2_searchLeastRandom : Cond.code yX2_searchLeastRandom cX2_searchLeastRandom 4 none ∈ TB := List.mem_filter.mpr ⟨List.mem_append_right _ (List.mem_of_getElem? (i := 443) (by decide +kernel)), by decide +kernel⟩
theorem tc_X2_compares : Cond.code yX2_compares cX2_compares 1 (some .int) ∈ TB := List.mem_filter.mpr ⟨List.mem_append_right _ (List.mem_of_getElem? (i := 447) (by decide +kernel)), by decide +kernel⟩
theorem tc_X2_told : Cond.code yX2_told cX2_told 3 (some .int) ∈ TB := List.mem_filter.mpr ⟨List.mem_append_right _ (List.mem_of_getElem? (i := 451) (by decide +kernel)), by decide +kernel⟩
theorem tc_X0_valueOf : Cond.code yX0_valueOf cX0_valueOf 2 (some .int) ∈ TB := List.mem_filter.mpr ⟨List.mem_append_right _ (List.mem_of_getElem? (i := 455) (by decide +kernel)), by decide +kernel⟩
theorem tc_X2_frames : Cond.code yX2_frames cX2_frames 1 (some .int) ∈ TB := List.mem_filter.mpr ⟨List.mem_append_right _ (List.mem_of_getElem? (i := 459) (by decide +kernel)), by decide +kernel⟩
theorem tc_X3_init : Cond.code yX3_init cX3_init 1 none ∈ TB := List.mem_filter.mpr ⟨List.mem_append_right _ (List.mem_of_getElem? (i := 464) (by decide +kernel)), by decide +kernel⟩
theorem tc_X3_gear : Cond.code yX3_gear cX3_gear 1 (some .int) ∈ TB := List.mem_filter.mpr ⟨List.mem_append_right _ (List.mem_of_getElem? (i := 560) (by decide +kernel)), by decide +kernel⟩
theorem tc_X3_begin : Cond.code yX3_begin cX3_begin 3 none ∈ TB := List.mem_filter.mpr ⟨List.mem_append_right _ (List.mem_of_getElem? (i := 564) (by decide +kernel)), by decide +kernel⟩
theorem tc_X3_give : Cond.code yX3_give cX3_give 3 (some .boolean) ∈ TB := List.mem_filter.mpr ⟨List.mem_append_right _ (List.mem_of_getElem? (i := 569) (by decide +kernel)), by decide +kernel⟩
theorem tc_X3_no : Cond.code yX3_no cX3_no 2 (some .boolean) ∈ TB := List.mem_filter.mpr ⟨List.mem_append_right _ (List.mem_of_getElem? (i := 573) (by decide +kernel)), by decide +kernel⟩
theorem tc_X3_isIn : Cond.code yX3_isIn cX3_isIn 3 (some .boolean) ∈ TB := List.mem_filter.mpr ⟨List.mem_append_right _ (List.mem_of_getElem? (i := 576) (by decide +kernel)), by decide +kernel⟩
theorem tc_X3_send : Cond.code yX3_send cX3_send 5 (some .int) ∈ TB := List.mem_filter.mpr ⟨List.mem_append_right _ (List.mem_of_getElem? (i := 580) (by decide +kernel)), by decide +kernel⟩
theorem tc_X3_special : Cond.code yX3_special cX3_special 7 none ∈ TB := List.mem_filter.mpr ⟨List.mem_append_right _ (List.mem_of_getElem? (i := 584) (by decide +kernel)), by decide +kernel⟩
theorem tc_X3_say : Cond.code yX3_say cX3_say 2 none ∈ TB := List.mem_filter.mpr ⟨List.mem_append_right _ (List.mem_of_getElem? (i := 588) (by decide +kernel)), by decide +kernel⟩
theorem tc_X3_setShort : Cond.code yX3_setShort cX3_setShort 3 none ∈ TB := List.mem_filter.mpr ⟨List.mem_append_right _ (List.mem_of_getElem? (i := 593) (by decide +kernel)), by decide +kernel⟩
theorem tc_X3_isMeant : Cond.code yX3_isMeant cX3_isMeant 3 (some .boolean) ∈ TB := List.mem_filter.mpr ⟨List.mem_append_right _ (List.mem_of_getElem? (i := 597) (by decide +kernel)), by decide +kernel⟩
theorem tc_X3_command : Cond.code yX3_command cX3_command 5 none ∈ TB := List.mem_filter.mpr ⟨List.mem_append_right _ (List.mem_of_getElem? (i := 601) (by decide +kernel)), by decide +kernel⟩
theorem tc_X3_level : Cond.code yX3_level cX3_level 4 none ∈ TB := List.mem_filter.mpr ⟨List.mem_append_right _ (List.mem_of_getElem? (i := 605) (by decide +kernel)), by decide +kernel⟩
theorem tc_X3_set : Cond.code yX3_set cX3_set 3 none ∈ TB := List.mem_filter.mpr ⟨List.mem_append_right _ (List.mem_of_getElem? (i := 609) (by decide +kernel)), by decide +kernel⟩
theorem tc_X3_step : Cond.code yX3_step cX3_step 3 none ∈ TB := List.mem_filter.mpr ⟨List.mem_append_right _ (List.mem_of_getElem? (i := 613) (by decide +kernel)), by decide +kernel⟩
theorem tc_X3_within : Cond.code yX3_within cX3_within 3 (some .int) ∈ TB := List.mem_filter.mpr ⟨List.mem_append_right _ (List.mem_of_getElem? (i := 617) (by decide +kernel)), by decide +kernel⟩
theorem tc_X3_goTo : Cond.code yX3_goTo cX3_goTo 4 none ∈ TB := List.mem_filter.mpr ⟨List.mem_append_right _ (List.mem_of_getElem? (i := 621) (by decide +kernel)), by decide +kernel⟩
theorem tc_X3_change : Cond.code yX3_change cX3_change 6 none ∈ TB := List.mem_filter.mpr ⟨List.mem_append_right _ (List.mem_of_getElem? (i := 625) (by decide +kernel)), by decide +kernel⟩
theorem tc_X3_bring : Cond.code yX3_bring cX3_bring 2 none ∈ TB := List.mem_filter.mpr ⟨List.mem_append_right _ (List.mem_of_getElem? (i := 629) (by decide +kernel)), by decide +kernel⟩
theorem tc_X3_ask : Cond.code yX3_ask cX3_ask 3 none ∈ TB := List.mem_filter.mpr ⟨List.mem_append_right _ (List.mem_of_getElem? (i := 633) (by decide +kernel)), by decide +kernel⟩
theorem tc_X3_tick : Cond.code yX3_tick cX3_tick 5 (some .int) ∈ TB := List.mem_filter.mpr ⟨List.mem_append_right _ (List.mem_of_getElem? (i := 637) (by decide +kernel)), by decide +kernel⟩
theorem tc_X3_power : Cond.code yX3_power cX3_power 3 none ∈ TB := List.mem_filter.mpr ⟨List.mem_append_right _ (List.mem_of_getElem? (i := 641) (by decide +kernel)), by decide +kernel⟩
theorem tc_X3_fail : Cond.code yX3_fail cX3_fail 2 none ∈ TB := List.mem_filter.mpr ⟨List.mem_append_right _ (List.mem_of_getElem? (i := 645) (by decide +kernel)), by decide +kernel⟩
theorem tc_X3_commission : Cond.code yX3_commission cX3_commission 6 (some .int) ∈ TB := List.mem_filter.mpr ⟨List.mem_append_right _ (List.mem_of_getElem? (i := 649) (by decide +kernel)), by decide +kernel⟩
theorem tc_X3_search : Cond.code yX3_search cX3_search 3 (some .int) ∈ TB := List.mem_filter.mpr ⟨List.mem_append_right _ (List.mem_of_getElem? (i := 654) (by decide +kernel)), by decide +kernel⟩
theorem tc_X3_compares : Cond.code yX3_compares cX3_compares 1 (some .int) ∈ TB := List.mem_filter.mpr ⟨List.mem_append_right _ (List.mem_of_getElem? (i := 659) (by decide +kernel)), by decide +kernel⟩
theorem tc_X3_told : Cond.code yX3_told cX3_told 3 (some .int) ∈ TB := List.mem_filter.mpr ⟨List.mem_append_right _ (List.mem_of_getElem? (i := 663) (by decide +kernel)), by decide +kernel⟩
theorem tc_X3_frames : Cond.code yX3_frames cX3_frames 1 (some .int) ∈ TB := List.mem_filter.mpr ⟨List.mem_append_right _ (List.mem_of_getElem? (i := 667) (by decide +kernel)), by decide +kernel⟩
theorem ti_L : Cond.initialized RL ∈ TB := List.mem_filter.mpr ⟨List.mem_append_right _ (List.mem_of_getElem? (i := 0) (by decide +kernel)), by decide +kernel⟩
theorem ti_X2 : Cond.initialized RX2 ∈ TB := List.mem_filter.mpr ⟨List.mem_append_right _ (List.mem_of_getElem? (i := 1) (by decide +kernel)), by decide +kernel⟩
theorem ti_Jxa1e45 : Cond.initialized RJxa1e45 ∈ TB := List.mem_filter.mpr ⟨List.mem_append_right _ (List.mem_of_getElem? (i := 2) (by decide +kernel)), by decide +kernel⟩
theorem ti_Jxc12de : Cond.initialized RJxc12de ∈ TB := List.mem_filter.mpr ⟨List.mem_append_right _ (List.mem_of_getElem? (i := 3) (by decide +kernel)), by decide +kernel⟩
theorem ti_Jx4a65c : Cond.initialized RJx4a65c ∈ TB := List.mem_filter.mpr ⟨List.mem_append_right _ (List.mem_of_getElem? (i := 4) (by decide +kernel)), by decide +kernel⟩
theorem ti_X3 : Cond.initialized RX3 ∈ TB := List.mem_filter.mpr ⟨List.mem_append_right _ (List.mem_of_getElem? (i := 5) (by decide +kernel)), by decide +kernel⟩
theorem ti_X0 : Cond.initialized RX0 ∈ TB := List.mem_filter.mpr ⟨List.mem_append_right _ (List.mem_of_getElem? (i := 6) (by decide +kernel)), by decide +kernel⟩
theorem ti_X1 : Cond.initialized RX1 ∈ TB := List.mem_filter.mpr ⟨List.mem_append_right _ (List.mem_of_getElem? (i := 7) (by decide +kernel)), by decide +kernel⟩
theorem ti_J7 : Cond.initialized RJ7 ∈ TB := List.mem_filter.mpr ⟨List.mem_append_right _ (List.mem_of_getElem? (i := 8) (by decide +kernel)), by decide +kernel⟩
theorem ti_J8 : Cond.initialized RJ8 ∈ TB := List.mem_filter.mpr ⟨List.mem_append_right _ (List.mem_of_getElem? (i := 9) (by decide +kernel)), by decide +kernel⟩
theorem ti_J9 : Cond.initialized RJ9 ∈ TB := List.mem_filter.mpr ⟨List.mem_append_right _ (List.mem_of_getElem? (i := 10) (by decide +kernel)), by decide +kernel⟩
theorem ti_J10 : Cond.initialized RJ10 ∈ TB := List.mem_filter.mpr ⟨List.mem_append_right _ (List.mem_of_getElem? (i := 11) (by decide +kernel)), by decide +kernel⟩
theorem ti_J15 : Cond.initialized RJ15 ∈ TB := List.mem_filter.mpr ⟨List.mem_append_right _ (List.mem_of_getElem? (i := 12) (by decide +kernel)), by decide +kernel⟩
theorem ti_J3 : Cond.initialized RJ3 ∈ TB := List.mem_filter.mpr ⟨List.mem_append_right _ (List.mem_of_getElem? (i := 13) (by decide +kernel)), by decide +kernel⟩
theorem tm_L_9 : Cond.methodLink RL 9 yX2_init ∈ TB := List.mem_filter.mpr ⟨List.mem_append_right _ (List.mem_of_getElem? (i := 16) (by decide +kernel)), by decide +kernel⟩
theorem tm_X2_1 : Cond.methodLink RX2 1 objectInit ∈ TB := List.mem_filter.mpr ⟨List.mem_append_right _ (List.mem_of_getElem? (i := 19) (by decide +kernel)), by decide +kernel⟩
theorem tm_X2_9 : Cond.methodLink RX2 9 yJx4a65c_init_da8c8 ∈ TB := List.mem_filter.mpr ⟨List.mem_append_right _ (List.mem_of_getElem? (i := 24) (by decide +kernel)), by decide +kernel⟩
theorem tm_Jx4a65c_1 : Cond.methodLink RJx4a65c 1 yJxc12de_init_da8c8 ∈ TB := List.mem_filter.mpr ⟨List.mem_append_right _ (List.mem_of_getElem? (i := 27) (by decide +kernel)), by decide +kernel⟩
theorem tm_Jxc12de_1 : Cond.methodLink RJxc12de 1 yJxa1e45_init_da8c8 ∈ TB := List.mem_filter.mpr ⟨List.mem_append_right _ (List.mem_of_getElem? (i := 30) (by decide +kernel)), by decide +kernel⟩
theorem tm_Jxa1e45_1 : Cond.methodLink RJxa1e45 1 objectInit ∈ TB := List.mem_filter.mpr ⟨List.mem_append_right _ (List.mem_of_getElem? (i := 33) (by decide +kernel)), by decide +kernel⟩
theorem tm_L_13 : Cond.methodLink RL 13 yX2_gear ∈ TB := List.mem_filter.mpr ⟨List.mem_append_right _ (List.mem_of_getElem? (i := 67) (by decide +kernel)), by decide +kernel⟩
theorem tm_X2_16 : Cond.methodLink RX2 16 yJx4a65c_size_8abf5 ∈ TB := List.mem_filter.mpr ⟨List.mem_append_right _ (List.mem_of_getElem? (i := 71) (by decide +kernel)), by decide +kernel⟩
theorem tm_X0_3 : Cond.methodLink RX0 3 objectInit ∈ TB := List.mem_filter.mpr ⟨List.mem_append_right _ (List.mem_of_getElem? (i := 80) (by decide +kernel)), by decide +kernel⟩
theorem tm_X1_1 : Cond.methodLink RX1 1 objectInit ∈ TB := List.mem_filter.mpr ⟨List.mem_append_right _ (List.mem_of_getElem? (i := 86) (by decide +kernel)), by decide +kernel⟩
theorem tm_X0_26 : Cond.methodLink RX0 26 yX0_reset ∈ TB := List.mem_filter.mpr ⟨List.mem_append_right _ (List.mem_of_getElem? (i := 121) (by decide +kernel)), by decide +kernel⟩
theorem tm_X1_25 : Cond.methodLink RX1 25 yX1_endFade ∈ TB := List.mem_filter.mpr ⟨List.mem_append_right _ (List.mem_of_getElem? (i := 129) (by decide +kernel)), by decide +kernel⟩
theorem tm_X0_42 : Cond.methodLink RX0 42 yJ7_fill_53178 ∈ TB := List.mem_filter.mpr ⟨List.mem_append_right _ (List.mem_of_getElem? (i := 133) (by decide +kernel)), by decide +kernel⟩
theorem tm_X0_29 : Cond.methodLink RX0 29 yX0_forgetSearch ∈ TB := List.mem_filter.mpr ⟨List.mem_append_right _ (List.mem_of_getElem? (i := 137) (by decide +kernel)), by decide +kernel⟩
theorem tm_X2_23 : Cond.methodLink RX2 23 yJx4a65c_add_9ea2d ∈ TB := List.mem_filter.mpr ⟨List.mem_append_right _ (List.mem_of_getElem? (i := 182) (by decide +kernel)), by decide +kernel⟩
theorem tm_Jx4a65c_131 : Cond.methodLink RJx4a65c 131 yJx4a65c_add_72be8 ∈ TB := List.mem_filter.mpr ⟨List.mem_append_right _ (List.mem_of_getElem? (i := 186) (by decide +kernel)), by decide +kernel⟩
theorem tm_Jx4a65c_129 : Cond.methodLink RJx4a65c 129 yJx4a65c_grow_d5877 ∈ TB := List.mem_filter.mpr ⟨List.mem_append_right _ (List.mem_of_getElem? (i := 190) (by decide +kernel)), by decide +kernel⟩
theorem tm_Jx4a65c_69 : Cond.methodLink RJx4a65c 69 yJx4a65c_grow_92f84 ∈ TB := List.mem_filter.mpr ⟨List.mem_append_right _ (List.mem_of_getElem? (i := 194) (by decide +kernel)), by decide +kernel⟩
theorem tm_Jx4a65c_73 : Cond.methodLink RJx4a65c 73 yJ8_newLength_cabcc ∈ TB := List.mem_filter.mpr ⟨List.mem_append_right _ (List.mem_of_getElem? (i := 198) (by decide +kernel)), by decide +kernel⟩
theorem tm_J8_194 : Cond.methodLink RJ8 194 yJ9_max_7cf53 ∈ TB := List.mem_filter.mpr ⟨List.mem_append_right _ (List.mem_of_getElem? (i := 201) (by decide +kernel)), by decide +kernel⟩
theorem tm_J8_201 : Cond.methodLink RJ8 201 yJ8_hugeLength_7cf53 ∈ TB := List.mem_filter.mpr ⟨List.mem_append_right _ (List.mem_of_getElem? (i := 205) (by decide +kernel)), by decide +kernel⟩
theorem tm_Jx4a65c_66 : Cond.methodLink RJx4a65c 66 yJ7_copyOf_1904c ∈ TB := List.mem_filter.mpr ⟨List.mem_append_right _ (List.mem_of_getElem? (i := 208) (by decide +kernel)), by decide +kernel⟩
theorem tm_J7_300 : Cond.methodLink RJ7 300 yJ7_copyOf_6403c ∈ TB := List.mem_filter.mpr ⟨List.mem_append_right _ (List.mem_of_getElem? (i := 220) (by decide +kernel)), by decide +kernel⟩
theorem tm_J7_304 : Cond.methodLink RJ7 304 yJ9_min_7cf53 ∈ TB := List.mem_filter.mpr ⟨List.mem_append_right _ (List.mem_of_getElem? (i := 226) (by decide +kernel)), by decide +kernel⟩
theorem tm_Jx4a65c_79 : Cond.methodLink RJx4a65c 79 yJ9_max_7cf53 ∈ TB := List.mem_filter.mpr ⟨List.mem_append_right _ (List.mem_of_getElem? (i := 232) (by decide +kernel)), by decide +kernel⟩
theorem tm_L_18 : Cond.methodLink RL 18 yX2_give ∈ TB := List.mem_filter.mpr ⟨List.mem_append_right _ (List.mem_of_getElem? (i := 234) (by decide +kernel)), by decide +kernel⟩
theorem tm_X2_27 : Cond.methodLink RX2 27 yX2_isGear ∈ TB := List.mem_filter.mpr ⟨List.mem_append_right _ (List.mem_of_getElem? (i := 238) (by decide +kernel)), by decide +kernel⟩
theorem tm_X2_32 : Cond.methodLink RX2 32 yJx4a65c_get_915e3 ∈ TB := List.mem_filter.mpr ⟨List.mem_append_right _ (List.mem_of_getElem? (i := 243) (by decide +kernel)), by decide +kernel⟩
theorem tm_Jx4a65c_118 : Cond.methodLink RJx4a65c 118 yJ15_checkIndex_7cf53 ∈ TB := List.mem_filter.mpr ⟨List.mem_append_right _ (List.mem_of_getElem? (i := 247) (by decide +kernel)), by decide +kernel⟩
theorem tm_J15_105 : Cond.methodLink RJ15 105 yJ3_checkIndex_8e157 ∈ TB := List.mem_filter.mpr ⟨List.mem_append_right _ (List.mem_of_getElem? (i := 250) (by decide +kernel)), by decide +kernel⟩
theorem tm_Jx4a65c_123 : Cond.methodLink RJx4a65c 123 yJx4a65c_elementData_915e3 ∈ TB := List.mem_filter.mpr ⟨List.mem_append_right _ (List.mem_of_getElem? (i := 253) (by decide +kernel)), by decide +kernel⟩
theorem tm_L_23 : Cond.methodLink RL 23 yX2_send ∈ TB := List.mem_filter.mpr ⟨List.mem_append_right _ (List.mem_of_getElem? (i := 257) (by decide +kernel)), by decide +kernel⟩
theorem tm_X2_40 : Cond.methodLink RX2 40 yX2_isByte ∈ TB := List.mem_filter.mpr ⟨List.mem_append_right _ (List.mem_of_getElem? (i := 261) (by decide +kernel)), by decide +kernel⟩
theorem tm_X2_43 : Cond.methodLink RX2 43 yX2_sendSpecial ∈ TB := List.mem_filter.mpr ⟨List.mem_append_right _ (List.mem_of_getElem? (i := 264) (by decide +kernel)), by decide +kernel⟩
theorem tm_X2_93 : Cond.methodLink RX2 93 yX2_countFrame ∈ TB := List.mem_filter.mpr ⟨List.mem_append_right _ (List.mem_of_getElem? (i := 268) (by decide +kernel)), by decide +kernel⟩
theorem tm_X0_152 : Cond.methodLink RX0 152 yX0_isToInitialise ∈ TB := List.mem_filter.mpr ⟨List.mem_append_right _ (List.mem_of_getElem? (i := 279) (by decide +kernel)), by decide +kernel⟩
theorem tm_X0_163 : Cond.methodLink RX0 163 yX0_isShortOf ∈ TB := List.mem_filter.mpr ⟨List.mem_append_right _ (List.mem_of_getElem? (i := 283) (by decide +kernel)), by decide +kernel⟩
theorem tm_X0_159 : Cond.methodLink RX0 159 yX0_hearInSearch ∈ TB := List.mem_filter.mpr ⟨List.mem_append_right _ (List.mem_of_getElem? (i := 287) (by decide +kernel)), by decide +kernel⟩
theorem tm_X0_135 : Cond.methodLink RX0 135 yX0_yesIf ∈ TB := List.mem_filter.mpr ⟨List.mem_append_right _ (List.mem_of_getElem? (i := 291) (by decide +kernel)), by decide +kernel⟩
theorem tm_X0_125 : Cond.methodLink RX0 125 yX0_takeShort ∈ TB := List.mem_filter.mpr ⟨List.mem_append_right _ (List.mem_of_getElem? (i := 294) (by decide +kernel)), by decide +kernel⟩
theorem tm_X2_101 : Cond.methodLink RX2 101 yX2_joined ∈ TB := List.mem_filter.mpr ⟨List.mem_append_right _ (List.mem_of_getElem? (i := 298) (by decide +kernel)), by decide +kernel⟩
theorem tm_X2_47 : Cond.methodLink RX2 47 yX2_sendAddressed ∈ TB := List.mem_filter.mpr ⟨List.mem_append_right _ (List.mem_of_getElem? (i := 301) (by decide +kernel)), by decide +kernel⟩
theorem tm_X1_35 : Cond.methodLink RX1 35 yX1_offOrClamped ∈ TB := List.mem_filter.mpr ⟨List.mem_append_right _ (List.mem_of_getElem? (i := 318) (by decide +kernel)), by decide +kernel⟩
theorem tm_X1_31 : Cond.methodLink RX1 31 yX1_clamped ∈ TB := List.mem_filter.mpr ⟨List.mem_append_right _ (List.mem_of_getElem? (i := 322) (by decide +kernel)), by decide +kernel⟩
theorem tm_X1_38 : Cond.methodLink RX1 38 yX1_setLevel ∈ TB := List.mem_filter.mpr ⟨List.mem_append_right _ (List.mem_of_getElem? (i := 326) (by decide +kernel)), by decide +kernel⟩
theorem tm_X0_79 : Cond.methodLink RX0 79 yX0_answerTo ∈ TB := List.mem_filter.mpr ⟨List.mem_append_right _ (List.mem_of_getElem? (i := 336) (by decide +kernel)), by decide +kernel⟩
theorem tm_X0_132 : Cond.methodLink RX0 132 yX0_status ∈ TB := List.mem_filter.mpr ⟨List.mem_append_right _ (List.mem_of_getElem? (i := 340) (by decide +kernel)), by decide +kernel⟩
theorem tm_X0_82 : Cond.methodLink RX0 82 yX0_light ∈ TB := List.mem_filter.mpr ⟨List.mem_append_right _ (List.mem_of_getElem? (i := 348) (by decide +kernel)), by decide +kernel⟩
theorem tm_X0_107 : Cond.methodLink RX0 107 yX0_goToUnlessUnset ∈ TB := List.mem_filter.mpr ⟨List.mem_append_right _ (List.mem_of_getElem? (i := 371) (by decide +kernel)), by decide +kernel⟩
theorem tm_X0_85 : Cond.methodLink RX0 85 yX0_configure ∈ TB := List.mem_filter.mpr ⟨List.mem_append_right _ (List.mem_of_getElem? (i := 375) (by decide +kernel)), by decide +kernel⟩
theorem tm_X1_64 : Cond.methodLink RX1 64 yJ9_min_7cf53 ∈ TB := List.mem_filter.mpr ⟨List.mem_append_right _ (List.mem_of_getElem? (i := 383) (by decide +kernel)), by decide +kernel⟩
theorem tm_X1_55 : Cond.methodLink RX1 55 yJ9_max_7cf53 ∈ TB := List.mem_filter.mpr ⟨List.mem_append_right _ (List.mem_of_getElem? (i := 384) (by decide +kernel)), by decide +kernel⟩
theorem tm_X0_128 : Cond.methodLink RX0 128 yX0_configureNumbered ∈ TB := List.mem_filter.mpr ⟨List.mem_append_right _ (List.mem_of_getElem? (i := 397) (by decide +kernel)), by decide +kernel⟩
theorem tm_L_28 : Cond.methodLink RL 28 yX2_tick ∈ TB := List.mem_filter.mpr ⟨List.mem_append_right _ (List.mem_of_getElem? (i := 401) (by decide +kernel)), by decide +kernel⟩
theorem tm_L_33 : Cond.methodLink RL 33 yX2_power ∈ TB := List.mem_filter.mpr ⟨List.mem_append_right _ (List.mem_of_getElem? (i := 410) (by decide +kernel)), by decide +kernel⟩
theorem tm_L_37 : Cond.methodLink RL 37 yX2_fail ∈ TB := List.mem_filter.mpr ⟨List.mem_append_right _ (List.mem_of_getElem? (i := 419) (by decide +kernel)), by decide +kernel⟩
theorem tm_L_41 : Cond.methodLink RL 41 yX2_commission ∈ TB := List.mem_filter.mpr ⟨List.mem_append_right _ (List.mem_of_getElem? (i := 424) (by decide +kernel)), by decide +kernel⟩
theorem tm_X2_80 : Cond.methodLink RX2 80 yX2_isAnyLeft ∈ TB := List.mem_filter.mpr ⟨List.mem_append_right _ (List.mem_of_getElem? (i := 428) (by decide +kernel)), by decide +kernel⟩
theorem tm_X2_120 : Cond.methodLink RX2 120 yX2_sendSearch ∈ TB := List.mem_filter.mpr ⟨List.mem_append_right _ (List.mem_of_getElem? (i := 432) (by decide +kernel)), by decide +kernel⟩
theorem tm_X2_123 : Cond.methodLink RX2 123 yX2_isAnyWithinSearch ∈ TB := List.mem_filter.mpr ⟨List.mem_append_right _ (List.mem_of_getElem? (i := 436) (by decide +kernel)), by decide +kernel⟩
theorem tm_X2_83 : Cond.methodLink RX2 83 yX2_searchLeastRandom ∈ TB := List.mem_filter.mpr ⟨List.mem_append_right _ (List.mem_of_getElem? (i := 440) (by decide +kernel)), by decide +kernel⟩
theorem tm_L_45 : Cond.methodLink RL 45 yX2_compares ∈ TB := List.mem_filter.mpr ⟨List.mem_append_right _ (List.mem_of_getElem? (i := 444) (by decide +kernel)), by decide +kernel⟩
theorem tm_L_49 : Cond.methodLink RL 49 yX2_told ∈ TB := List.mem_filter.mpr ⟨List.mem_append_right _ (List.mem_of_getElem? (i := 448) (by decide +kernel)), by decide +kernel⟩
theorem tm_L_53 : Cond.methodLink RL 53 yX2_frames ∈ TB := List.mem_filter.mpr ⟨List.mem_append_right _ (List.mem_of_getElem? (i := 456) (by decide +kernel)), by decide +kernel⟩
theorem tm_L_12 : Cond.methodLink RL 12 yX3_init ∈ TB := List.mem_filter.mpr ⟨List.mem_append_right _ (List.mem_of_getElem? (i := 462) (by decide +kernel)), by decide +kernel⟩
theorem tm_X3_1 : Cond.methodLink RX3 1 objectInit ∈ TB := List.mem_filter.mpr ⟨List.mem_append_right _ (List.mem_of_getElem? (i := 465) (by decide +kernel)), by decide +kernel⟩
theorem tm_L_17 : Cond.methodLink RL 17 yX3_gear ∈ TB := List.mem_filter.mpr ⟨List.mem_append_right _ (List.mem_of_getElem? (i := 557) (by decide +kernel)), by decide +kernel⟩
theorem tm_X3_85 : Cond.methodLink RX3 85 yX3_begin ∈ TB := List.mem_filter.mpr ⟨List.mem_append_right _ (List.mem_of_getElem? (i := 561) (by decide +kernel)), by decide +kernel⟩
theorem tm_L_22 : Cond.methodLink RL 22 yX3_give ∈ TB := List.mem_filter.mpr ⟨List.mem_append_right _ (List.mem_of_getElem? (i := 566) (by decide +kernel)), by decide +kernel⟩
theorem tm_X3_89 : Cond.methodLink RX3 89 yX3_no ∈ TB := List.mem_filter.mpr ⟨List.mem_append_right _ (List.mem_of_getElem? (i := 570) (by decide +kernel)), by decide +kernel⟩
theorem tm_X3_93 : Cond.methodLink RX3 93 yX3_isIn ∈ TB := List.mem_filter.mpr ⟨List.mem_append_right _ (List.mem_of_getElem? (i := 574) (by decide +kernel)), by decide +kernel⟩
theorem tm_L_27 : Cond.methodLink RL 27 yX3_send ∈ TB := List.mem_filter.mpr ⟨List.mem_append_right _ (List.mem_of_getElem? (i := 577) (by decide +kernel)), by decide +kernel⟩
theorem tm_X3_146 : Cond.methodLink RX3 146 yX3_special ∈ TB := List.mem_filter.mpr ⟨List.mem_append_right _ (List.mem_of_getElem? (i := 581) (by decide +kernel)), by decide +kernel⟩
theorem tm_X3_129 : Cond.methodLink RX3 129 yX3_say ∈ TB := List.mem_filter.mpr ⟨List.mem_append_right _ (List.mem_of_getElem? (i := 585) (by decide +kernel)), by decide +kernel⟩
theorem tm_X3_126 : Cond.methodLink RX3 126 yX3_setShort ∈ TB := List.mem_filter.mpr ⟨List.mem_append_right _ (List.mem_of_getElem? (i := 590) (by decide +kernel)), by decide +kernel⟩
theorem tm_X3_150 : Cond.methodLink RX3 150 yX3_isMeant ∈ TB := List.mem_filter.mpr ⟨List.mem_append_right _ (List.mem_of_getElem? (i := 594) (by decide +kernel)), by decide +kernel⟩
theorem tm_X3_154 : Cond.methodLink RX3 154 yX3_command ∈ TB := List.mem_filter.mpr ⟨List.mem_append_right _ (List.mem_of_getElem? (i := 598) (by decide +kernel)), by decide +kernel⟩
theorem tm_X3_108 : Cond.methodLink RX3 108 yX3_level ∈ TB := List.mem_filter.mpr ⟨List.mem_append_right _ (List.mem_of_getElem? (i := 602) (by decide +kernel)), by decide +kernel⟩
theorem tm_X3_101 : Cond.methodLink RX3 101 yX3_set ∈ TB := List.mem_filter.mpr ⟨List.mem_append_right _ (List.mem_of_getElem? (i := 606) (by decide +kernel)), by decide +kernel⟩
theorem tm_X3_120 : Cond.methodLink RX3 120 yX3_step ∈ TB := List.mem_filter.mpr ⟨List.mem_append_right _ (List.mem_of_getElem? (i := 610) (by decide +kernel)), by decide +kernel⟩
theorem tm_X3_97 : Cond.methodLink RX3 97 yX3_within ∈ TB := List.mem_filter.mpr ⟨List.mem_append_right _ (List.mem_of_getElem? (i := 614) (by decide +kernel)), by decide +kernel⟩
theorem tm_X3_111 : Cond.methodLink RX3 111 yX3_goTo ∈ TB := List.mem_filter.mpr ⟨List.mem_append_right _ (List.mem_of_getElem? (i := 618) (by decide +kernel)), by decide +kernel⟩
theorem tm_X3_114 : Cond.methodLink RX3 114 yX3_change ∈ TB := List.mem_filter.mpr ⟨List.mem_append_right _ (List.mem_of_getElem? (i := 622) (by decide +kernel)), by decide +kernel⟩
theorem tm_X3_123 : Cond.methodLink RX3 123 yX3_bring ∈ TB := List.mem_filter.mpr ⟨List.mem_append_right _ (List.mem_of_getElem? (i := 626) (by decide +kernel)), by decide +kernel⟩
theorem tm_X3_117 : Cond.methodLink RX3 117 yX3_ask ∈ TB := List.mem_filter.mpr ⟨List.mem_append_right _ (List.mem_of_getElem? (i := 630) (by decide +kernel)), by decide +kernel⟩
theorem tm_L_32 : Cond.methodLink RL 32 yX3_tick ∈ TB := List.mem_filter.mpr ⟨List.mem_append_right _ (List.mem_of_getElem? (i := 634) (by decide +kernel)), by decide +kernel⟩
theorem tm_L_36 : Cond.methodLink RL 36 yX3_power ∈ TB := List.mem_filter.mpr ⟨List.mem_append_right _ (List.mem_of_getElem? (i := 638) (by decide +kernel)), by decide +kernel⟩
theorem tm_L_40 : Cond.methodLink RL 40 yX3_fail ∈ TB := List.mem_filter.mpr ⟨List.mem_append_right _ (List.mem_of_getElem? (i := 642) (by decide +kernel)), by decide +kernel⟩
theorem tm_L_44 : Cond.methodLink RL 44 yX3_commission ∈ TB := List.mem_filter.mpr ⟨List.mem_append_right _ (List.mem_of_getElem? (i := 646) (by decide +kernel)), by decide +kernel⟩
theorem tm_X3_158 : Cond.methodLink RX3 158 yX3_send ∈ TB := List.mem_filter.mpr ⟨List.mem_append_right _ (List.mem_of_getElem? (i := 650) (by decide +kernel)), by decide +kernel⟩
theorem tm_X3_164 : Cond.methodLink RX3 164 yX3_search ∈ TB := List.mem_filter.mpr ⟨List.mem_append_right _ (List.mem_of_getElem? (i := 651) (by decide +kernel)), by decide +kernel⟩
theorem tm_L_48 : Cond.methodLink RL 48 yX3_compares ∈ TB := List.mem_filter.mpr ⟨List.mem_append_right _ (List.mem_of_getElem? (i := 656) (by decide +kernel)), by decide +kernel⟩
theorem tm_L_52 : Cond.methodLink RL 52 yX3_told ∈ TB := List.mem_filter.mpr ⟨List.mem_append_right _ (List.mem_of_getElem? (i := 660) (by decide +kernel)), by decide +kernel⟩
theorem tm_L_56 : Cond.methodLink RL 56 yX3_frames ∈ TB := List.mem_filter.mpr ⟨List.mem_append_right _ (List.mem_of_getElem? (i := 664) (by decide +kernel)), by decide +kernel⟩
theorem tn_X2_init : Cond.instanceMethod yX2_init ∈ TB := List.mem_filter.mpr ⟨List.mem_append_right _ (List.mem_of_getElem? (i := 17) (by decide +kernel)), by decide +kernel⟩
theorem tn_Obj : Cond.instanceMethod objectInit ∈ TB := List.mem_filter.mpr ⟨List.mem_append_right _ (List.mem_of_getElem? (i := 20) (by decide +kernel)), by decide +kernel⟩
theorem tn_Jx4a65c_init_da8c8 : Cond.instanceMethod yJx4a65c_init_da8c8 ∈ TB := List.mem_filter.mpr ⟨List.mem_append_right _ (List.mem_of_getElem? (i := 25) (by decide +kernel)), by decide +kernel⟩
theorem tn_Jxc12de_init_da8c8 : Cond.instanceMethod yJxc12de_init_da8c8 ∈ TB := List.mem_filter.mpr ⟨List.mem_append_right _ (List.mem_of_getElem? (i := 28) (by decide +kernel)), by decide +kernel⟩
theorem tn_Jxa1e45_init_da8c8 : Cond.instanceMethod yJxa1e45_init_da8c8 ∈ TB := List.mem_filter.mpr ⟨List.mem_append_right _ (List.mem_of_getElem? (i := 31) (by decide +kernel)), by decide +kernel⟩
theorem tn_X2_gear : Cond.instanceMethod yX2_gear ∈ TB := List.mem_filter.mpr ⟨List.mem_append_right _ (List.mem_of_getElem? (i := 68) (by decide +kernel)), by decide +kernel⟩
theorem tn_Jx4a65c_size_8abf5 : Cond.instanceMethod yJx4a65c_size_8abf5 ∈ TB := List.mem_filter.mpr ⟨List.mem_append_right _ (List.mem_of_getElem? (i := 72) (by decide +kernel)), by decide +kernel⟩
theorem tn_X0_init : Cond.instanceMethod yX0_init ∈ TB := List.mem_filter.mpr ⟨List.mem_append_right _ (List.mem_of_getElem? (i := 78) (by decide +kernel)), by decide +kernel⟩
theorem tn_X1_init : Cond.instanceMethod yX1_init ∈ TB := List.mem_filter.mpr ⟨List.mem_append_right _ (List.mem_of_getElem? (i := 84) (by decide +kernel)), by decide +kernel⟩
theorem tn_X0_reset : Cond.instanceMethod yX0_reset ∈ TB := List.mem_filter.mpr ⟨List.mem_append_right _ (List.mem_of_getElem? (i := 123) (by decide +kernel)), by decide +kernel⟩
theorem tn_X1_reset : Cond.instanceMethod yX1_reset ∈ TB := List.mem_filter.mpr ⟨List.mem_append_right _ (List.mem_of_getElem? (i := 127) (by decide +kernel)), by decide +kernel⟩
theorem tn_X1_endFade : Cond.instanceMethod yX1_endFade ∈ TB := List.mem_filter.mpr ⟨List.mem_append_right _ (List.mem_of_getElem? (i := 131) (by decide +kernel)), by decide +kernel⟩
theorem tn_X0_forgetSearch : Cond.instanceMethod yX0_forgetSearch ∈ TB := List.mem_filter.mpr ⟨List.mem_append_right _ (List.mem_of_getElem? (i := 139) (by decide +kernel)), by decide +kernel⟩
theorem tn_Jx4a65c_add_9ea2d : Cond.instanceMethod yJx4a65c_add_9ea2d ∈ TB := List.mem_filter.mpr ⟨List.mem_append_right _ (List.mem_of_getElem? (i := 183) (by decide +kernel)), by decide +kernel⟩
theorem tn_Jx4a65c_add_72be8 : Cond.instanceMethod yJx4a65c_add_72be8 ∈ TB := List.mem_filter.mpr ⟨List.mem_append_right _ (List.mem_of_getElem? (i := 188) (by decide +kernel)), by decide +kernel⟩
theorem tn_Jx4a65c_grow_d5877 : Cond.instanceMethod yJx4a65c_grow_d5877 ∈ TB := List.mem_filter.mpr ⟨List.mem_append_right _ (List.mem_of_getElem? (i := 192) (by decide +kernel)), by decide +kernel⟩
theorem tn_Jx4a65c_grow_92f84 : Cond.instanceMethod yJx4a65c_grow_92f84 ∈ TB := List.mem_filter.mpr ⟨List.mem_append_right _ (List.mem_of_getElem? (i := 196) (by decide +kernel)), by decide +kernel⟩
theorem tn_X2_give : Cond.instanceMethod yX2_give ∈ TB := List.mem_filter.mpr ⟨List.mem_append_right _ (List.mem_of_getElem? (i := 235) (by decide +kernel)), by decide +kernel⟩
theorem tn_X2_isGear : Cond.instanceMethod yX2_isGear ∈ TB := List.mem_filter.mpr ⟨List.mem_append_right _ (List.mem_of_getElem? (i := 240) (by decide +kernel)), by decide +kernel⟩
theorem tn_Jx4a65c_get_915e3 : Cond.instanceMethod yJx4a65c_get_915e3 ∈ TB := List.mem_filter.mpr ⟨List.mem_append_right _ (List.mem_of_getElem? (i := 244) (by decide +kernel)), by decide +kernel⟩
theorem tn_Jx4a65c_elementData_915e3 : Cond.instanceMethod yJx4a65c_elementData_915e3 ∈ TB := List.mem_filter.mpr ⟨List.mem_append_right _ (List.mem_of_getElem? (i := 254) (by decide +kernel)), by decide +kernel⟩
theorem tn_X2_send : Cond.instanceMethod yX2_send ∈ TB := List.mem_filter.mpr ⟨List.mem_append_right _ (List.mem_of_getElem? (i := 258) (by decide +kernel)), by decide +kernel⟩
theorem tn_X2_sendSpecial : Cond.instanceMethod yX2_sendSpecial ∈ TB := List.mem_filter.mpr ⟨List.mem_append_right _ (List.mem_of_getElem? (i := 266) (by decide +kernel)), by decide +kernel⟩
theorem tn_X2_countFrame : Cond.instanceMethod yX2_countFrame ∈ TB := List.mem_filter.mpr ⟨List.mem_append_right _ (List.mem_of_getElem? (i := 270) (by decide +kernel)), by decide +kernel⟩
theorem tn_X0_hearSpecial : Cond.instanceMethod yX0_hearSpecial ∈ TB := List.mem_filter.mpr ⟨List.mem_append_right _ (List.mem_of_getElem? (i := 274) (by decide +kernel)), by decide +kernel⟩
theorem tn_X0_isToInitialise : Cond.instanceMethod yX0_isToInitialise ∈ TB := List.mem_filter.mpr ⟨List.mem_append_right _ (List.mem_of_getElem? (i := 281) (by decide +kernel)), by decide +kernel⟩
theorem tn_X0_isShortOf : Cond.instanceMethod yX0_isShortOf ∈ TB := List.mem_filter.mpr ⟨List.mem_append_right _ (List.mem_of_getElem? (i := 285) (by decide +kernel)), by decide +kernel⟩
theorem tn_X0_hearInSearch : Cond.instanceMethod yX0_hearInSearch ∈ TB := List.mem_filter.mpr ⟨List.mem_append_right _ (List.mem_of_getElem? (i := 289) (by decide +kernel)), by decide +kernel⟩
theorem tn_X0_takeShort : Cond.instanceMethod yX0_takeShort ∈ TB := List.mem_filter.mpr ⟨List.mem_append_right _ (List.mem_of_getElem? (i := 296) (by decide +kernel)), by decide +kernel⟩
theorem tn_X2_sendAddressed : Cond.instanceMethod yX2_sendAddressed ∈ TB := List.mem_filter.mpr ⟨List.mem_append_right _ (List.mem_of_getElem? (i := 303) (by decide +kernel)), by decide +kernel⟩
theorem tn_X0_isMeantBy : Cond.instanceMethod yX0_isMeantBy ∈ TB := List.mem_filter.mpr ⟨List.mem_append_right _ (List.mem_of_getElem? (i := 307) (by decide +kernel)), by decide +kernel⟩
theorem tn_X0_hearLevel : Cond.instanceMethod yX0_hearLevel ∈ TB := List.mem_filter.mpr ⟨List.mem_append_right _ (List.mem_of_getElem? (i := 311) (by decide +kernel)), by decide +kernel⟩
theorem tn_X1_goTo : Cond.instanceMethod yX1_goTo ∈ TB := List.mem_filter.mpr ⟨List.mem_append_right _ (List.mem_of_getElem? (i := 316) (by decide +kernel)), by decide +kernel⟩
theorem tn_X1_offOrClamped : Cond.instanceMethod yX1_offOrClamped ∈ TB := List.mem_filter.mpr ⟨List.mem_append_right _ (List.mem_of_getElem? (i := 320) (by decide +kernel)), by decide +kernel⟩
theorem tn_X1_clamped : Cond.instanceMethod yX1_clamped ∈ TB := List.mem_filter.mpr ⟨List.mem_append_right _ (List.mem_of_getElem? (i := 324) (by decide +kernel)), by decide +kernel⟩
theorem tn_X1_setLevel : Cond.instanceMethod yX1_setLevel ∈ TB := List.mem_filter.mpr ⟨List.mem_append_right _ (List.mem_of_getElem? (i := 328) (by decide +kernel)), by decide +kernel⟩
theorem tn_X0_hearCommand : Cond.instanceMethod yX0_hearCommand ∈ TB := List.mem_filter.mpr ⟨List.mem_append_right _ (List.mem_of_getElem? (i := 334) (by decide +kernel)), by decide +kernel⟩
theorem tn_X0_answerTo : Cond.instanceMethod yX0_answerTo ∈ TB := List.mem_filter.mpr ⟨List.mem_append_right _ (List.mem_of_getElem? (i := 338) (by decide +kernel)), by decide +kernel⟩
theorem tn_X0_status : Cond.instanceMethod yX0_status ∈ TB := List.mem_filter.mpr ⟨List.mem_append_right _ (List.mem_of_getElem? (i := 342) (by decide +kernel)), by decide +kernel⟩
theorem tn_X1_isFading : Cond.instanceMethod yX1_isFading ∈ TB := List.mem_filter.mpr ⟨List.mem_append_right _ (List.mem_of_getElem? (i := 346) (by decide +kernel)), by decide +kernel⟩
theorem tn_X0_light : Cond.instanceMethod yX0_light ∈ TB := List.mem_filter.mpr ⟨List.mem_append_right _ (List.mem_of_getElem? (i := 350) (by decide +kernel)), by decide +kernel⟩
theorem tn_X1_rateStep : Cond.instanceMethod yX1_rateStep ∈ TB := List.mem_filter.mpr ⟨List.mem_append_right _ (List.mem_of_getElem? (i := 355) (by decide +kernel)), by decide +kernel⟩
theorem tn_X1_moveBy : Cond.instanceMethod yX1_moveBy ∈ TB := List.mem_filter.mpr ⟨List.mem_append_right _ (List.mem_of_getElem? (i := 361) (by decide +kernel)), by decide +kernel⟩
theorem tn_X1_stepDownOrOff : Cond.instanceMethod yX1_stepDownOrOff ∈ TB := List.mem_filter.mpr ⟨List.mem_append_right _ (List.mem_of_getElem? (i := 365) (by decide +kernel)), by decide +kernel⟩
theorem tn_X1_onOrStepUp : Cond.instanceMethod yX1_onOrStepUp ∈ TB := List.mem_filter.mpr ⟨List.mem_append_right _ (List.mem_of_getElem? (i := 369) (by decide +kernel)), by decide +kernel⟩
theorem tn_X0_goToUnlessUnset : Cond.instanceMethod yX0_goToUnlessUnset ∈ TB := List.mem_filter.mpr ⟨List.mem_append_right _ (List.mem_of_getElem? (i := 373) (by decide +kernel)), by decide +kernel⟩
theorem tn_X0_configure : Cond.instanceMethod yX0_configure ∈ TB := List.mem_filter.mpr ⟨List.mem_append_right _ (List.mem_of_getElem? (i := 377) (by decide +kernel)), by decide +kernel⟩
theorem tn_X1_setMost : Cond.instanceMethod yX1_setMost ∈ TB := List.mem_filter.mpr ⟨List.mem_append_right _ (List.mem_of_getElem? (i := 381) (by decide +kernel)), by decide +kernel⟩
theorem tn_X1_setLeast : Cond.instanceMethod yX1_setLeast ∈ TB := List.mem_filter.mpr ⟨List.mem_append_right _ (List.mem_of_getElem? (i := 387) (by decide +kernel)), by decide +kernel⟩
theorem tn_X1_setFade : Cond.instanceMethod yX1_setFade ∈ TB := List.mem_filter.mpr ⟨List.mem_append_right _ (List.mem_of_getElem? (i := 391) (by decide +kernel)), by decide +kernel⟩
theorem tn_X1_setRate : Cond.instanceMethod yX1_setRate ∈ TB := List.mem_filter.mpr ⟨List.mem_append_right _ (List.mem_of_getElem? (i := 395) (by decide +kernel)), by decide +kernel⟩
theorem tn_X0_configureNumbered : Cond.instanceMethod yX0_configureNumbered ∈ TB := List.mem_filter.mpr ⟨List.mem_append_right _ (List.mem_of_getElem? (i := 399) (by decide +kernel)), by decide +kernel⟩
theorem tn_X2_tick : Cond.instanceMethod yX2_tick ∈ TB := List.mem_filter.mpr ⟨List.mem_append_right _ (List.mem_of_getElem? (i := 402) (by decide +kernel)), by decide +kernel⟩
theorem tn_X1_passTicks : Cond.instanceMethod yX1_passTicks ∈ TB := List.mem_filter.mpr ⟨List.mem_append_right _ (List.mem_of_getElem? (i := 407) (by decide +kernel)), by decide +kernel⟩
theorem tn_X2_power : Cond.instanceMethod yX2_power ∈ TB := List.mem_filter.mpr ⟨List.mem_append_right _ (List.mem_of_getElem? (i := 411) (by decide +kernel)), by decide +kernel⟩
theorem tn_X0_startAgain : Cond.instanceMethod yX0_startAgain ∈ TB := List.mem_filter.mpr ⟨List.mem_append_right _ (List.mem_of_getElem? (i := 416) (by decide +kernel)), by decide +kernel⟩
theorem tn_X2_fail : Cond.instanceMethod yX2_fail ∈ TB := List.mem_filter.mpr ⟨List.mem_append_right _ (List.mem_of_getElem? (i := 420) (by decide +kernel)), by decide +kernel⟩
theorem tn_X2_commission : Cond.instanceMethod yX2_commission ∈ TB := List.mem_filter.mpr ⟨List.mem_append_right _ (List.mem_of_getElem? (i := 425) (by decide +kernel)), by decide +kernel⟩
theorem tn_X2_isAnyLeft : Cond.instanceMethod yX2_isAnyLeft ∈ TB := List.mem_filter.mpr ⟨List.mem_append_right _ (List.mem_of_getElem? (i := 430) (by decide +kernel)), by decide +kernel⟩
theorem tn_X2_sendSearch : Cond.instanceMethod yX2_sendSearch ∈ TB := List.mem_filter.mpr ⟨List.mem_append_right _ (List.mem_of_getElem? (i := 434) (by decide +kernel)), by decide +kernel⟩
theorem tn_X2_isAnyWithinSearch : Cond.instanceMethod yX2_isAnyWithinSearch ∈ TB := List.mem_filter.mpr ⟨List.mem_append_right _ (List.mem_of_getElem? (i := 438) (by decide +kernel)), by decide +kernel⟩
theorem tn_X2_searchLeastRandom : Cond.instanceMethod yX2_searchLeastRandom ∈ TB := List.mem_filter.mpr ⟨List.mem_append_right _ (List.mem_of_getElem? (i := 442) (by decide +kernel)), by decide +kernel⟩
theorem tn_X2_compares : Cond.instanceMethod yX2_compares ∈ TB := List.mem_filter.mpr ⟨List.mem_append_right _ (List.mem_of_getElem? (i := 445) (by decide +kernel)), by decide +kernel⟩
theorem tn_X2_told : Cond.instanceMethod yX2_told ∈ TB := List.mem_filter.mpr ⟨List.mem_append_right _ (List.mem_of_getElem? (i := 449) (by decide +kernel)), by decide +kernel⟩
theorem tn_X0_valueOf : Cond.instanceMethod yX0_valueOf ∈ TB := List.mem_filter.mpr ⟨List.mem_append_right _ (List.mem_of_getElem? (i := 454) (by decide +kernel)), by decide +kernel⟩
theorem tn_X2_frames : Cond.instanceMethod yX2_frames ∈ TB := List.mem_filter.mpr ⟨List.mem_append_right _ (List.mem_of_getElem? (i := 457) (by decide +kernel)), by decide +kernel⟩
theorem tn_X3_init : Cond.instanceMethod yX3_init ∈ TB := List.mem_filter.mpr ⟨List.mem_append_right _ (List.mem_of_getElem? (i := 463) (by decide +kernel)), by decide +kernel⟩
theorem tn_X3_gear : Cond.instanceMethod yX3_gear ∈ TB := List.mem_filter.mpr ⟨List.mem_append_right _ (List.mem_of_getElem? (i := 558) (by decide +kernel)), by decide +kernel⟩
theorem tn_X3_begin : Cond.instanceMethod yX3_begin ∈ TB := List.mem_filter.mpr ⟨List.mem_append_right _ (List.mem_of_getElem? (i := 563) (by decide +kernel)), by decide +kernel⟩
theorem tn_X3_give : Cond.instanceMethod yX3_give ∈ TB := List.mem_filter.mpr ⟨List.mem_append_right _ (List.mem_of_getElem? (i := 567) (by decide +kernel)), by decide +kernel⟩
theorem tn_X3_no : Cond.instanceMethod yX3_no ∈ TB := List.mem_filter.mpr ⟨List.mem_append_right _ (List.mem_of_getElem? (i := 572) (by decide +kernel)), by decide +kernel⟩
theorem tn_X3_send : Cond.instanceMethod yX3_send ∈ TB := List.mem_filter.mpr ⟨List.mem_append_right _ (List.mem_of_getElem? (i := 578) (by decide +kernel)), by decide +kernel⟩
theorem tn_X3_special : Cond.instanceMethod yX3_special ∈ TB := List.mem_filter.mpr ⟨List.mem_append_right _ (List.mem_of_getElem? (i := 583) (by decide +kernel)), by decide +kernel⟩
theorem tn_X3_say : Cond.instanceMethod yX3_say ∈ TB := List.mem_filter.mpr ⟨List.mem_append_right _ (List.mem_of_getElem? (i := 587) (by decide +kernel)), by decide +kernel⟩
theorem tn_X3_setShort : Cond.instanceMethod yX3_setShort ∈ TB := List.mem_filter.mpr ⟨List.mem_append_right _ (List.mem_of_getElem? (i := 592) (by decide +kernel)), by decide +kernel⟩
theorem tn_X3_isMeant : Cond.instanceMethod yX3_isMeant ∈ TB := List.mem_filter.mpr ⟨List.mem_append_right _ (List.mem_of_getElem? (i := 596) (by decide +kernel)), by decide +kernel⟩
theorem tn_X3_command : Cond.instanceMethod yX3_command ∈ TB := List.mem_filter.mpr ⟨List.mem_append_right _ (List.mem_of_getElem? (i := 600) (by decide +kernel)), by decide +kernel⟩
theorem tn_X3_level : Cond.instanceMethod yX3_level ∈ TB := List.mem_filter.mpr ⟨List.mem_append_right _ (List.mem_of_getElem? (i := 604) (by decide +kernel)), by decide +kernel⟩
theorem tn_X3_set : Cond.instanceMethod yX3_set ∈ TB := List.mem_filter.mpr ⟨List.mem_append_right _ (List.mem_of_getElem? (i := 608) (by decide +kernel)), by decide +kernel⟩
theorem tn_X3_step : Cond.instanceMethod yX3_step ∈ TB := List.mem_filter.mpr ⟨List.mem_append_right _ (List.mem_of_getElem? (i := 612) (by decide +kernel)), by decide +kernel⟩
theorem tn_X3_within : Cond.instanceMethod yX3_within ∈ TB := List.mem_filter.mpr ⟨List.mem_append_right _ (List.mem_of_getElem? (i := 616) (by decide +kernel)), by decide +kernel⟩
theorem tn_X3_goTo : Cond.instanceMethod yX3_goTo ∈ TB := List.mem_filter.mpr ⟨List.mem_append_right _ (List.mem_of_getElem? (i := 620) (by decide +kernel)), by decide +kernel⟩
theorem tn_X3_change : Cond.instanceMethod yX3_change ∈ TB := List.mem_filter.mpr ⟨List.mem_append_right _ (List.mem_of_getElem? (i := 624) (by decide +kernel)), by decide +kernel⟩
theorem tn_X3_bring : Cond.instanceMethod yX3_bring ∈ TB := List.mem_filter.mpr ⟨List.mem_append_right _ (List.mem_of_getElem? (i := 628) (by decide +kernel)), by decide +kernel⟩
theorem tn_X3_ask : Cond.instanceMethod yX3_ask ∈ TB := List.mem_filter.mpr ⟨List.mem_append_right _ (List.mem_of_getElem? (i := 632) (by decide +kernel)), by decide +kernel⟩
theorem tn_X3_tick : Cond.instanceMethod yX3_tick ∈ TB := List.mem_filter.mpr ⟨List.mem_append_right _ (List.mem_of_getElem? (i := 635) (by decide +kernel)), by decide +kernel⟩
theorem tn_X3_power : Cond.instanceMethod yX3_power ∈ TB := List.mem_filter.mpr ⟨List.mem_append_right _ (List.mem_of_getElem? (i := 639) (by decide +kernel)), by decide +kernel⟩
theorem tn_X3_fail : Cond.instanceMethod yX3_fail ∈ TB := List.mem_filter.mpr ⟨List.mem_append_right _ (List.mem_of_getElem? (i := 643) (by decide +kernel)), by decide +kernel⟩
theorem tn_X3_commission : Cond.instanceMethod yX3_commission ∈ TB := List.mem_filter.mpr ⟨List.mem_append_right _ (List.mem_of_getElem? (i := 647) (by decide +kernel)), by decide +kernel⟩
theorem tn_X3_search : Cond.instanceMethod yX3_search ∈ TB := List.mem_filter.mpr ⟨List.mem_append_right _ (List.mem_of_getElem? (i := 653) (by decide +kernel)), by decide +kernel⟩
theorem tn_X3_compares : Cond.instanceMethod yX3_compares ∈ TB := List.mem_filter.mpr ⟨List.mem_append_right _ (List.mem_of_getElem? (i := 657) (by decide +kernel)), by decide +kernel⟩
theorem tn_X3_told : Cond.instanceMethod yX3_told ∈ TB := List.mem_filter.mpr ⟨List.mem_append_right _ (List.mem_of_getElem? (i := 661) (by decide +kernel)), by decide +kernel⟩
theorem tn_X3_frames : Cond.instanceMethod yX3_frames ∈ TB := List.mem_filter.mpr ⟨List.mem_append_right _ (List.mem_of_getElem? (i := 665) (by decide +kernel)), by decide +kernel⟩
theorem ts_J7_fill_53178 : Cond.static yJ7_fill_53178 ∈ TB := List.mem_filter.mpr ⟨List.mem_append_right _ (List.mem_of_getElem? (i := 134) (by decide +kernel)), by decide +kernel⟩
theorem ts_J8_newLength_cabcc : Cond.static yJ8_newLength_cabcc ∈ TB := List.mem_filter.mpr ⟨List.mem_append_right _ (List.mem_of_getElem? (i := 199) (by decide +kernel)), by decide +kernel⟩
theorem ts_J9_max_7cf53 : Cond.static yJ9_max_7cf53 ∈ TB := List.mem_filter.mpr ⟨List.mem_append_right _ (List.mem_of_getElem? (i := 202) (by decide +kernel)), by decide +kernel⟩
theorem ts_J8_hugeLength_7cf53 : Cond.static yJ8_hugeLength_7cf53 ∈ TB := List.mem_filter.mpr ⟨List.mem_append_right _ (List.mem_of_getElem? (i := 206) (by decide +kernel)), by decide +kernel⟩
theorem ts_J7_copyOf_1904c : Cond.static yJ7_copyOf_1904c ∈ TB := List.mem_filter.mpr ⟨List.mem_append_right _ (List.mem_of_getElem? (i := 209) (by decide +kernel)), by decide +kernel⟩
theorem ts_J7_copyOf_6403c : Cond.static yJ7_copyOf_6403c ∈ TB := List.mem_filter.mpr ⟨List.mem_append_right _ (List.mem_of_getElem? (i := 221) (by decide +kernel)), by decide +kernel⟩
theorem ts_J9_min_7cf53 : Cond.static yJ9_min_7cf53 ∈ TB := List.mem_filter.mpr ⟨List.mem_append_right _ (List.mem_of_getElem? (i := 227) (by decide +kernel)), by decide +kernel⟩
theorem ts_J15_checkIndex_7cf53 : Cond.static yJ15_checkIndex_7cf53 ∈ TB := List.mem_filter.mpr ⟨List.mem_append_right _ (List.mem_of_getElem? (i := 248) (by decide +kernel)), by decide +kernel⟩
theorem ts_J3_checkIndex_8e157 : Cond.static yJ3_checkIndex_8e157 ∈ TB := List.mem_filter.mpr ⟨List.mem_append_right _ (List.mem_of_getElem? (i := 251) (by decide +kernel)), by decide +kernel⟩
theorem ts_X2_isByte : Cond.static yX2_isByte ∈ TB := List.mem_filter.mpr ⟨List.mem_append_right _ (List.mem_of_getElem? (i := 262) (by decide +kernel)), by decide +kernel⟩
theorem ts_X0_yesIf : Cond.static yX0_yesIf ∈ TB := List.mem_filter.mpr ⟨List.mem_append_right _ (List.mem_of_getElem? (i := 292) (by decide +kernel)), by decide +kernel⟩
theorem ts_X2_joined : Cond.static yX2_joined ∈ TB := List.mem_filter.mpr ⟨List.mem_append_right _ (List.mem_of_getElem? (i := 299) (by decide +kernel)), by decide +kernel⟩
theorem ts_X3_isIn : Cond.static yX3_isIn ∈ TB := List.mem_filter.mpr ⟨List.mem_append_right _ (List.mem_of_getElem? (i := 575) (by decide +kernel)), by decide +kernel⟩
theorem tl_X2_gear : Cond.selects RX2 yX2_gear yX2_gear ∈ TB := List.mem_filter.mpr ⟨List.mem_append_right _ (List.mem_of_getElem? (i := 69) (by decide +kernel)), by decide +kernel⟩
theorem tl_Jx4a65c_size_8abf5 : Cond.selects RJx4a65c yJx4a65c_size_8abf5 yJx4a65c_size_8abf5 ∈ TB := List.mem_filter.mpr ⟨List.mem_append_right _ (List.mem_of_getElem? (i := 73) (by decide +kernel)), by decide +kernel⟩
theorem tl_Jx4a65c_add_9ea2d : Cond.selects RJx4a65c yJx4a65c_add_9ea2d yJx4a65c_add_9ea2d ∈ TB := List.mem_filter.mpr ⟨List.mem_append_right _ (List.mem_of_getElem? (i := 184) (by decide +kernel)), by decide +kernel⟩
theorem tl_X2_give : Cond.selects RX2 yX2_give yX2_give ∈ TB := List.mem_filter.mpr ⟨List.mem_append_right _ (List.mem_of_getElem? (i := 236) (by decide +kernel)), by decide +kernel⟩
theorem tl_Jx4a65c_get_915e3 : Cond.selects RJx4a65c yJx4a65c_get_915e3 yJx4a65c_get_915e3 ∈ TB := List.mem_filter.mpr ⟨List.mem_append_right _ (List.mem_of_getElem? (i := 245) (by decide +kernel)), by decide +kernel⟩
theorem tl_Jx4a65c_elementData_915e3 : Cond.selects RJx4a65c yJx4a65c_elementData_915e3 yJx4a65c_elementData_915e3 ∈ TB := List.mem_filter.mpr ⟨List.mem_append_right _ (List.mem_of_getElem? (i := 255) (by decide +kernel)), by decide +kernel⟩
theorem tl_X2_send : Cond.selects RX2 yX2_send yX2_send ∈ TB := List.mem_filter.mpr ⟨List.mem_append_right _ (List.mem_of_getElem? (i := 259) (by decide +kernel)), by decide +kernel⟩
theorem tl_X2_tick : Cond.selects RX2 yX2_tick yX2_tick ∈ TB := List.mem_filter.mpr ⟨List.mem_append_right _ (List.mem_of_getElem? (i := 403) (by decide +kernel)), by decide +kernel⟩
theorem tl_X2_power : Cond.selects RX2 yX2_power yX2_power ∈ TB := List.mem_filter.mpr ⟨List.mem_append_right _ (List.mem_of_getElem? (i := 412) (by decide +kernel)), by decide +kernel⟩
theorem tl_X2_fail : Cond.selects RX2 yX2_fail yX2_fail ∈ TB := List.mem_filter.mpr ⟨List.mem_append_right _ (List.mem_of_getElem? (i := 421) (by decide +kernel)), by decide +kernel⟩
theorem tl_X2_commission : Cond.selects RX2 yX2_commission yX2_commission ∈ TB := List.mem_filter.mpr ⟨List.mem_append_right _ (List.mem_of_getElem? (i := 426) (by decide +kernel)), by decide +kernel⟩
theorem tl_X2_compares : Cond.selects RX2 yX2_compares yX2_compares ∈ TB := List.mem_filter.mpr ⟨List.mem_append_right _ (List.mem_of_getElem? (i := 446) (by decide +kernel)), by decide +kernel⟩
theorem tl_X2_told : Cond.selects RX2 yX2_told yX2_told ∈ TB := List.mem_filter.mpr ⟨List.mem_append_right _ (List.mem_of_getElem? (i := 450) (by decide +kernel)), by decide +kernel⟩
theorem tl_X2_frames : Cond.selects RX2 yX2_frames yX2_frames ∈ TB := List.mem_filter.mpr ⟨List.mem_append_right _ (List.mem_of_getElem? (i := 458) (by decide +kernel)), by decide +kernel⟩
theorem tl_X3_gear : Cond.selects RX3 yX3_gear yX3_gear ∈ TB := List.mem_filter.mpr ⟨List.mem_append_right _ (List.mem_of_getElem? (i := 559) (by decide +kernel)), by decide +kernel⟩
theorem tl_X3_give : Cond.selects RX3 yX3_give yX3_give ∈ TB := List.mem_filter.mpr ⟨List.mem_append_right _ (List.mem_of_getElem? (i := 568) (by decide +kernel)), by decide +kernel⟩
theorem tl_X3_send : Cond.selects RX3 yX3_send yX3_send ∈ TB := List.mem_filter.mpr ⟨List.mem_append_right _ (List.mem_of_getElem? (i := 579) (by decide +kernel)), by decide +kernel⟩
theorem tl_X3_tick : Cond.selects RX3 yX3_tick yX3_tick ∈ TB := List.mem_filter.mpr ⟨List.mem_append_right _ (List.mem_of_getElem? (i := 636) (by decide +kernel)), by decide +kernel⟩
theorem tl_X3_power : Cond.selects RX3 yX3_power yX3_power ∈ TB := List.mem_filter.mpr ⟨List.mem_append_right _ (List.mem_of_getElem? (i := 640) (by decide +kernel)), by decide +kernel⟩
theorem tl_X3_fail : Cond.selects RX3 yX3_fail yX3_fail ∈ TB := List.mem_filter.mpr ⟨List.mem_append_right _ (List.mem_of_getElem? (i := 644) (by decide +kernel)), by decide +kernel⟩
theorem tl_X3_commission : Cond.selects RX3 yX3_commission yX3_commission ∈ TB := List.mem_filter.mpr ⟨List.mem_append_right _ (List.mem_of_getElem? (i := 648) (by decide +kernel)), by decide +kernel⟩
theorem tl_X3_compares : Cond.selects RX3 yX3_compares yX3_compares ∈ TB := List.mem_filter.mpr ⟨List.mem_append_right _ (List.mem_of_getElem? (i := 658) (by decide +kernel)), by decide +kernel⟩
theorem tl_X3_told : Cond.selects RX3 yX3_told yX3_told ∈ TB := List.mem_filter.mpr ⟨List.mem_append_right _ (List.mem_of_getElem? (i := 662) (by decide +kernel)), by decide +kernel⟩
theorem tl_X3_frames : Cond.selects RX3 yX3_frames yX3_frames ∈ TB := List.mem_filter.mpr ⟨List.mem_append_right _ (List.mem_of_getElem? (i := 666) (by decide +kernel)), by decide +kernel⟩
theorem tl_X0_reset : Cond.selects RX0 yX0_reset yX0_reset ∈ TB := List.mem_filter.mpr ⟨List.mem_append_left _ (List.mem_of_getElem? (i := 0) (by decide +kernel)), by decide +kernel⟩
theorem tl_X1_reset : Cond.selects RX1 yX1_reset yX1_reset ∈ TB := List.mem_filter.mpr ⟨List.mem_append_left _ (List.mem_of_getElem? (i := 1) (by decide +kernel)), by decide +kernel⟩
theorem tl_X1_endFade : Cond.selects RX1 yX1_endFade yX1_endFade ∈ TB := List.mem_filter.mpr ⟨List.mem_append_left _ (List.mem_of_getElem? (i := 2) (by decide +kernel)), by decide +kernel⟩
theorem tl_X0_forgetSearch : Cond.selects RX0 yX0_forgetSearch yX0_forgetSearch ∈ TB := List.mem_filter.mpr ⟨List.mem_append_left _ (List.mem_of_getElem? (i := 3) (by decide +kernel)), by decide +kernel⟩
theorem tl_Jx4a65c_add_72be8 : Cond.selects RJx4a65c yJx4a65c_add_72be8 yJx4a65c_add_72be8 ∈ TB := List.mem_filter.mpr ⟨List.mem_append_left _ (List.mem_of_getElem? (i := 4) (by decide +kernel)), by decide +kernel⟩
theorem tl_Jx4a65c_grow_d5877 : Cond.selects RJx4a65c yJx4a65c_grow_d5877 yJx4a65c_grow_d5877 ∈ TB := List.mem_filter.mpr ⟨List.mem_append_left _ (List.mem_of_getElem? (i := 5) (by decide +kernel)), by decide +kernel⟩
theorem tl_Jx4a65c_grow_92f84 : Cond.selects RJx4a65c yJx4a65c_grow_92f84 yJx4a65c_grow_92f84 ∈ TB := List.mem_filter.mpr ⟨List.mem_append_left _ (List.mem_of_getElem? (i := 6) (by decide +kernel)), by decide +kernel⟩
theorem tl_X2_isGear : Cond.selects RX2 yX2_isGear yX2_isGear ∈ TB := List.mem_filter.mpr ⟨List.mem_append_left _ (List.mem_of_getElem? (i := 7) (by decide +kernel)), by decide +kernel⟩
theorem tl_X2_sendSpecial : Cond.selects RX2 yX2_sendSpecial yX2_sendSpecial ∈ TB := List.mem_filter.mpr ⟨List.mem_append_left _ (List.mem_of_getElem? (i := 8) (by decide +kernel)), by decide +kernel⟩
theorem tl_X2_countFrame : Cond.selects RX2 yX2_countFrame yX2_countFrame ∈ TB := List.mem_filter.mpr ⟨List.mem_append_left _ (List.mem_of_getElem? (i := 9) (by decide +kernel)), by decide +kernel⟩
theorem tl_X0_hearSpecial : Cond.selects RX0 yX0_hearSpecial yX0_hearSpecial ∈ TB := List.mem_filter.mpr ⟨List.mem_append_left _ (List.mem_of_getElem? (i := 10) (by decide +kernel)), by decide +kernel⟩
theorem tl_X0_isToInitialise : Cond.selects RX0 yX0_isToInitialise yX0_isToInitialise ∈ TB := List.mem_filter.mpr ⟨List.mem_append_left _ (List.mem_of_getElem? (i := 11) (by decide +kernel)), by decide +kernel⟩
theorem tl_X0_isShortOf : Cond.selects RX0 yX0_isShortOf yX0_isShortOf ∈ TB := List.mem_filter.mpr ⟨List.mem_append_left _ (List.mem_of_getElem? (i := 12) (by decide +kernel)), by decide +kernel⟩
theorem tl_X0_hearInSearch : Cond.selects RX0 yX0_hearInSearch yX0_hearInSearch ∈ TB := List.mem_filter.mpr ⟨List.mem_append_left _ (List.mem_of_getElem? (i := 13) (by decide +kernel)), by decide +kernel⟩
theorem tl_X0_takeShort : Cond.selects RX0 yX0_takeShort yX0_takeShort ∈ TB := List.mem_filter.mpr ⟨List.mem_append_left _ (List.mem_of_getElem? (i := 14) (by decide +kernel)), by decide +kernel⟩
theorem tl_X2_sendAddressed : Cond.selects RX2 yX2_sendAddressed yX2_sendAddressed ∈ TB := List.mem_filter.mpr ⟨List.mem_append_left _ (List.mem_of_getElem? (i := 15) (by decide +kernel)), by decide +kernel⟩
theorem tl_X0_isMeantBy : Cond.selects RX0 yX0_isMeantBy yX0_isMeantBy ∈ TB := List.mem_filter.mpr ⟨List.mem_append_left _ (List.mem_of_getElem? (i := 16) (by decide +kernel)), by decide +kernel⟩
theorem tl_X0_hearLevel : Cond.selects RX0 yX0_hearLevel yX0_hearLevel ∈ TB := List.mem_filter.mpr ⟨List.mem_append_left _ (List.mem_of_getElem? (i := 17) (by decide +kernel)), by decide +kernel⟩
theorem tl_X1_goTo : Cond.selects RX1 yX1_goTo yX1_goTo ∈ TB := List.mem_filter.mpr ⟨List.mem_append_left _ (List.mem_of_getElem? (i := 18) (by decide +kernel)), by decide +kernel⟩
theorem tl_X1_offOrClamped : Cond.selects RX1 yX1_offOrClamped yX1_offOrClamped ∈ TB := List.mem_filter.mpr ⟨List.mem_append_left _ (List.mem_of_getElem? (i := 19) (by decide +kernel)), by decide +kernel⟩
theorem tl_X1_clamped : Cond.selects RX1 yX1_clamped yX1_clamped ∈ TB := List.mem_filter.mpr ⟨List.mem_append_left _ (List.mem_of_getElem? (i := 20) (by decide +kernel)), by decide +kernel⟩
theorem tl_X1_setLevel : Cond.selects RX1 yX1_setLevel yX1_setLevel ∈ TB := List.mem_filter.mpr ⟨List.mem_append_left _ (List.mem_of_getElem? (i := 21) (by decide +kernel)), by decide +kernel⟩
theorem tl_X0_hearCommand : Cond.selects RX0 yX0_hearCommand yX0_hearCommand ∈ TB := List.mem_filter.mpr ⟨List.mem_append_left _ (List.mem_of_getElem? (i := 22) (by decide +kernel)), by decide +kernel⟩
theorem tl_X0_answerTo : Cond.selects RX0 yX0_answerTo yX0_answerTo ∈ TB := List.mem_filter.mpr ⟨List.mem_append_left _ (List.mem_of_getElem? (i := 23) (by decide +kernel)), by decide +kernel⟩
theorem tl_X0_status : Cond.selects RX0 yX0_status yX0_status ∈ TB := List.mem_filter.mpr ⟨List.mem_append_left _ (List.mem_of_getElem? (i := 24) (by decide +kernel)), by decide +kernel⟩
theorem tl_X1_isFading : Cond.selects RX1 yX1_isFading yX1_isFading ∈ TB := List.mem_filter.mpr ⟨List.mem_append_left _ (List.mem_of_getElem? (i := 25) (by decide +kernel)), by decide +kernel⟩
theorem tl_X0_light : Cond.selects RX0 yX0_light yX0_light ∈ TB := List.mem_filter.mpr ⟨List.mem_append_left _ (List.mem_of_getElem? (i := 26) (by decide +kernel)), by decide +kernel⟩
theorem tl_X1_rateStep : Cond.selects RX1 yX1_rateStep yX1_rateStep ∈ TB := List.mem_filter.mpr ⟨List.mem_append_left _ (List.mem_of_getElem? (i := 27) (by decide +kernel)), by decide +kernel⟩
theorem tl_X1_moveBy : Cond.selects RX1 yX1_moveBy yX1_moveBy ∈ TB := List.mem_filter.mpr ⟨List.mem_append_left _ (List.mem_of_getElem? (i := 28) (by decide +kernel)), by decide +kernel⟩
theorem tl_X1_stepDownOrOff : Cond.selects RX1 yX1_stepDownOrOff yX1_stepDownOrOff ∈ TB := List.mem_filter.mpr ⟨List.mem_append_left _ (List.mem_of_getElem? (i := 29) (by decide +kernel)), by decide +kernel⟩
theorem tl_X1_onOrStepUp : Cond.selects RX1 yX1_onOrStepUp yX1_onOrStepUp ∈ TB := List.mem_filter.mpr ⟨List.mem_append_left _ (List.mem_of_getElem? (i := 30) (by decide +kernel)), by decide +kernel⟩
theorem tl_X0_goToUnlessUnset : Cond.selects RX0 yX0_goToUnlessUnset yX0_goToUnlessUnset ∈ TB := List.mem_filter.mpr ⟨List.mem_append_left _ (List.mem_of_getElem? (i := 31) (by decide +kernel)), by decide +kernel⟩
theorem tl_X0_configure : Cond.selects RX0 yX0_configure yX0_configure ∈ TB := List.mem_filter.mpr ⟨List.mem_append_left _ (List.mem_of_getElem? (i := 32) (by decide +kernel)), by decide +kernel⟩
theorem tl_X1_setMost : Cond.selects RX1 yX1_setMost yX1_setMost ∈ TB := List.mem_filter.mpr ⟨List.mem_append_left _ (List.mem_of_getElem? (i := 33) (by decide +kernel)), by decide +kernel⟩
theorem tl_X1_setLeast : Cond.selects RX1 yX1_setLeast yX1_setLeast ∈ TB := List.mem_filter.mpr ⟨List.mem_append_left _ (List.mem_of_getElem? (i := 34) (by decide +kernel)), by decide +kernel⟩
theorem tl_X1_setFade : Cond.selects RX1 yX1_setFade yX1_setFade ∈ TB := List.mem_filter.mpr ⟨List.mem_append_left _ (List.mem_of_getElem? (i := 35) (by decide +kernel)), by decide +kernel⟩
theorem tl_X1_setRate : Cond.selects RX1 yX1_setRate yX1_setRate ∈ TB := List.mem_filter.mpr ⟨List.mem_append_left _ (List.mem_of_getElem? (i := 36) (by decide +kernel)), by decide +kernel⟩
theorem tl_X0_configureNumbered : Cond.selects RX0 yX0_configureNumbered yX0_configureNumbered ∈ TB := List.mem_filter.mpr ⟨List.mem_append_left _ (List.mem_of_getElem? (i := 37) (by decide +kernel)), by decide +kernel⟩
theorem tl_X1_passTicks : Cond.selects RX1 yX1_passTicks yX1_passTicks ∈ TB := List.mem_filter.mpr ⟨List.mem_append_left _ (List.mem_of_getElem? (i := 38) (by decide +kernel)), by decide +kernel⟩
theorem tl_X0_startAgain : Cond.selects RX0 yX0_startAgain yX0_startAgain ∈ TB := List.mem_filter.mpr ⟨List.mem_append_left _ (List.mem_of_getElem? (i := 39) (by decide +kernel)), by decide +kernel⟩
theorem tl_X2_isAnyLeft : Cond.selects RX2 yX2_isAnyLeft yX2_isAnyLeft ∈ TB := List.mem_filter.mpr ⟨List.mem_append_left _ (List.mem_of_getElem? (i := 40) (by decide +kernel)), by decide +kernel⟩
theorem tl_X2_sendSearch : Cond.selects RX2 yX2_sendSearch yX2_sendSearch ∈ TB := List.mem_filter.mpr ⟨List.mem_append_left _ (List.mem_of_getElem? (i := 41) (by decide +kernel)), by decide +kernel⟩
theorem tl_X2_isAnyWithinSearch : Cond.selects RX2 yX2_isAnyWithinSearch yX2_isAnyWithinSearch ∈ TB := List.mem_filter.mpr ⟨List.mem_append_left _ (List.mem_of_getElem? (i := 42) (by decide +kernel)), by decide +kernel⟩
theorem tl_X2_searchLeastRandom : Cond.selects RX2 yX2_searchLeastRandom yX2_searchLeastRandom ∈ TB := List.mem_filter.mpr ⟨List.mem_append_left _ (List.mem_of_getElem? (i := 43) (by decide +kernel)), by decide +kernel⟩
theorem tl_X0_valueOf : Cond.selects RX0 yX0_valueOf yX0_valueOf ∈ TB := List.mem_filter.mpr ⟨List.mem_append_left _ (List.mem_of_getElem? (i := 44) (by decide +kernel)), by decide +kernel⟩
theorem tl_X3_begin : Cond.selects RX3 yX3_begin yX3_begin ∈ TB := List.mem_filter.mpr ⟨List.mem_append_left _ (List.mem_of_getElem? (i := 45) (by decide +kernel)), by decide +kernel⟩
theorem tl_X3_no : Cond.selects RX3 yX3_no yX3_no ∈ TB := List.mem_filter.mpr ⟨List.mem_append_left _ (List.mem_of_getElem? (i := 46) (by decide +kernel)), by decide +kernel⟩
theorem tl_X3_special : Cond.selects RX3 yX3_special yX3_special ∈ TB := List.mem_filter.mpr ⟨List.mem_append_left _ (List.mem_of_getElem? (i := 47) (by decide +kernel)), by decide +kernel⟩
theorem tl_X3_say : Cond.selects RX3 yX3_say yX3_say ∈ TB := List.mem_filter.mpr ⟨List.mem_append_left _ (List.mem_of_getElem? (i := 48) (by decide +kernel)), by decide +kernel⟩
theorem tl_X3_setShort : Cond.selects RX3 yX3_setShort yX3_setShort ∈ TB := List.mem_filter.mpr ⟨List.mem_append_left _ (List.mem_of_getElem? (i := 49) (by decide +kernel)), by decide +kernel⟩
theorem tl_X3_isMeant : Cond.selects RX3 yX3_isMeant yX3_isMeant ∈ TB := List.mem_filter.mpr ⟨List.mem_append_left _ (List.mem_of_getElem? (i := 50) (by decide +kernel)), by decide +kernel⟩
theorem tl_X3_command : Cond.selects RX3 yX3_command yX3_command ∈ TB := List.mem_filter.mpr ⟨List.mem_append_left _ (List.mem_of_getElem? (i := 51) (by decide +kernel)), by decide +kernel⟩
theorem tl_X3_level : Cond.selects RX3 yX3_level yX3_level ∈ TB := List.mem_filter.mpr ⟨List.mem_append_left _ (List.mem_of_getElem? (i := 52) (by decide +kernel)), by decide +kernel⟩
theorem tl_X3_set : Cond.selects RX3 yX3_set yX3_set ∈ TB := List.mem_filter.mpr ⟨List.mem_append_left _ (List.mem_of_getElem? (i := 53) (by decide +kernel)), by decide +kernel⟩
theorem tl_X3_step : Cond.selects RX3 yX3_step yX3_step ∈ TB := List.mem_filter.mpr ⟨List.mem_append_left _ (List.mem_of_getElem? (i := 54) (by decide +kernel)), by decide +kernel⟩
theorem tl_X3_within : Cond.selects RX3 yX3_within yX3_within ∈ TB := List.mem_filter.mpr ⟨List.mem_append_left _ (List.mem_of_getElem? (i := 55) (by decide +kernel)), by decide +kernel⟩
theorem tl_X3_goTo : Cond.selects RX3 yX3_goTo yX3_goTo ∈ TB := List.mem_filter.mpr ⟨List.mem_append_left _ (List.mem_of_getElem? (i := 56) (by decide +kernel)), by decide +kernel⟩
theorem tl_X3_change : Cond.selects RX3 yX3_change yX3_change ∈ TB := List.mem_filter.mpr ⟨List.mem_append_left _ (List.mem_of_getElem? (i := 57) (by decide +kernel)), by decide +kernel⟩
theorem tl_X3_bring : Cond.selects RX3 yX3_bring yX3_bring ∈ TB := List.mem_filter.mpr ⟨List.mem_append_left _ (List.mem_of_getElem? (i := 58) (by decide +kernel)), by decide +kernel⟩
theorem tl_X3_ask : Cond.selects RX3 yX3_ask yX3_ask ∈ TB := List.mem_filter.mpr ⟨List.mem_append_left _ (List.mem_of_getElem? (i := 59) (by decide +kernel)), by decide +kernel⟩
theorem tl_X3_search : Cond.selects RX3 yX3_search yX3_search ∈ TB := List.mem_filter.mpr ⟨List.mem_append_left _ (List.mem_of_getElem? (i := 60) (by decide +kernel)), by decide +kernel⟩
theorem tf_Jx4a65c_39 : Cond.fieldLink RJx4a65c 39 "java/util/ArrayList" "DEFAULTCAPACITY_EMPTY_ELEMENTDATA" "[Ljava/lang/Object;" ∈ TB := List.mem_filter.mpr ⟨List.mem_append_right _ (List.mem_of_getElem? (i := 34) (by decide +kernel)), by decide +kernel⟩
theorem tf_Jx4a65c_9 : Cond.fieldLink RJx4a65c 9 "java/util/ArrayList" "elementData" "[Ljava/lang/Object;" ∈ TB := List.mem_filter.mpr ⟨List.mem_append_right _ (List.mem_of_getElem? (i := 36) (by decide +kernel)), by decide +kernel⟩
theorem tf_Jx4a65c_48 : Cond.fieldLink RJx4a65c 48 "java/util/ArrayList" "size" "I" ∈ TB := List.mem_filter.mpr ⟨List.mem_append_right _ (List.mem_of_getElem? (i := 37) (by decide +kernel)), by decide +kernel⟩
theorem tf_Jxc12de_7 : Cond.fieldLink RJxc12de 7 "java/util/AbstractList" "modCount" "I" ∈ TB := List.mem_filter.mpr ⟨List.mem_append_right _ (List.mem_of_getElem? (i := 38) (by decide +kernel)), by decide +kernel⟩
theorem tf_Jx4a65c_63 : Cond.fieldLink RJx4a65c 63 "java/util/ArrayList" "modCount" "I" ∈ TB := List.mem_filter.mpr ⟨List.mem_append_right _ (List.mem_of_getElem? (i := 39) (by decide +kernel)), by decide +kernel⟩
theorem tf_X2_10 : Cond.fieldLink RX2 10 "LampBus" "gears" "Ljava/util/ArrayList;" ∈ TB := List.mem_filter.mpr ⟨List.mem_append_right _ (List.mem_of_getElem? (i := 48) (by decide +kernel)), by decide +kernel⟩
theorem tf_X2_90 : Cond.fieldLink RX2 90 "LampBus" "frameCount" "I" ∈ TB := List.mem_filter.mpr ⟨List.mem_append_right _ (List.mem_of_getElem? (i := 49) (by decide +kernel)), by decide +kernel⟩
theorem tf_X2_77 : Cond.fieldLink RX2 77 "LampBus" "compareCount" "I" ∈ TB := List.mem_filter.mpr ⟨List.mem_append_right _ (List.mem_of_getElem? (i := 50) (by decide +kernel)), by decide +kernel⟩
theorem tf_X2_114 : Cond.fieldLink RX2 114 "LampBus" "lastA" "I" ∈ TB := List.mem_filter.mpr ⟨List.mem_append_right _ (List.mem_of_getElem? (i := 51) (by decide +kernel)), by decide +kernel⟩
theorem tf_X2_117 : Cond.fieldLink RX2 117 "LampBus" "lastB" "I" ∈ TB := List.mem_filter.mpr ⟨List.mem_append_right _ (List.mem_of_getElem? (i := 52) (by decide +kernel)), by decide +kernel⟩
theorem tf_X2_50 : Cond.fieldLink RX2 50 "LampBus" "lastMayBeFirstOfTwo" "Z" ∈ TB := List.mem_filter.mpr ⟨List.mem_append_right _ (List.mem_of_getElem? (i := 53) (by decide +kernel)), by decide +kernel⟩
theorem tf_X1_9 : Cond.fieldLink RX1 9 "LampBus$Lamp" "level" "I" ∈ TB := List.mem_filter.mpr ⟨List.mem_append_right _ (List.mem_of_getElem? (i := 87) (by decide +kernel)), by decide +kernel⟩
theorem tf_X1_13 : Cond.fieldLink RX1 13 "LampBus$Lamp" "least" "I" ∈ TB := List.mem_filter.mpr ⟨List.mem_append_right _ (List.mem_of_getElem? (i := 89) (by decide +kernel)), by decide +kernel⟩
theorem tf_X1_16 : Cond.fieldLink RX1 16 "LampBus$Lamp" "most" "I" ∈ TB := List.mem_filter.mpr ⟨List.mem_append_right _ (List.mem_of_getElem? (i := 91) (by decide +kernel)), by decide +kernel⟩
theorem tf_X1_19 : Cond.fieldLink RX1 19 "LampBus$Lamp" "fade" "I" ∈ TB := List.mem_filter.mpr ⟨List.mem_append_right _ (List.mem_of_getElem? (i := 93) (by decide +kernel)), by decide +kernel⟩
theorem tf_X1_22 : Cond.fieldLink RX1 22 "LampBus$Lamp" "rate" "I" ∈ TB := List.mem_filter.mpr ⟨List.mem_append_right _ (List.mem_of_getElem? (i := 95) (by decide +kernel)), by decide +kernel⟩
theorem tf_X1_42 : Cond.fieldLink RX1 42 "LampBus$Lamp" "fadeBegin" "I" ∈ TB := List.mem_filter.mpr ⟨List.mem_append_right _ (List.mem_of_getElem? (i := 97) (by decide +kernel)), by decide +kernel⟩
theorem tf_X1_45 : Cond.fieldLink RX1 45 "LampBus$Lamp" "fadeEnd" "I" ∈ TB := List.mem_filter.mpr ⟨List.mem_append_right _ (List.mem_of_getElem? (i := 98) (by decide +kernel)), by decide +kernel⟩
theorem tf_X1_48 : Cond.fieldLink RX1 48 "LampBus$Lamp" "ticksPassed" "I" ∈ TB := List.mem_filter.mpr ⟨List.mem_append_right _ (List.mem_of_getElem? (i := 100) (by decide +kernel)), by decide +kernel⟩
theorem tf_X1_28 : Cond.fieldLink RX1 28 "LampBus$Lamp" "ticksInAll" "I" ∈ TB := List.mem_filter.mpr ⟨List.mem_append_right _ (List.mem_of_getElem? (i := 101) (by decide +kernel)), by decide +kernel⟩
theorem tf_X0_12 : Cond.fieldLink RX0 12 "LampBus$Gear" "lamp" "LLampBus$Lamp;" ∈ TB := List.mem_filter.mpr ⟨List.mem_append_right _ (List.mem_of_getElem? (i := 141) (by decide +kernel)), by decide +kernel⟩
theorem tf_X0_18 : Cond.fieldLink RX0 18 "LampBus$Gear" "scenes" "[I" ∈ TB := List.mem_filter.mpr ⟨List.mem_append_right _ (List.mem_of_getElem? (i := 143) (by decide +kernel)), by decide +kernel⟩
theorem tf_X0_33 : Cond.fieldLink RX0 33 "LampBus$Gear" "powerLevel" "I" ∈ TB := List.mem_filter.mpr ⟨List.mem_append_right _ (List.mem_of_getElem? (i := 144) (by decide +kernel)), by decide +kernel⟩
theorem tf_X0_36 : Cond.fieldLink RX0 36 "LampBus$Gear" "failLevel" "I" ∈ TB := List.mem_filter.mpr ⟨List.mem_append_right _ (List.mem_of_getElem? (i := 145) (by decide +kernel)), by decide +kernel⟩
theorem tf_X0_39 : Cond.fieldLink RX0 39 "LampBus$Gear" "groups" "I" ∈ TB := List.mem_filter.mpr ⟨List.mem_append_right _ (List.mem_of_getElem? (i := 147) (by decide +kernel)), by decide +kernel⟩
theorem tf_X0_22 : Cond.fieldLink RX0 22 "LampBus$Gear" "shortAddress" "I" ∈ TB := List.mem_filter.mpr ⟨List.mem_append_right _ (List.mem_of_getElem? (i := 148) (by decide +kernel)), by decide +kernel⟩
theorem tf_X0_49 : Cond.fieldLink RX0 49 "LampBus$Gear" "random" "I" ∈ TB := List.mem_filter.mpr ⟨List.mem_append_right _ (List.mem_of_getElem? (i := 149) (by decide +kernel)), by decide +kernel⟩
theorem tf_X0_156 : Cond.fieldLink RX0 156 "LampBus$Gear" "nextRandom" "I" ∈ TB := List.mem_filter.mpr ⟨List.mem_append_right _ (List.mem_of_getElem? (i := 151) (by decide +kernel)), by decide +kernel⟩
theorem tf_X0_55 : Cond.fieldLink RX0 55 "LampBus$Gear" "dtr" "I" ∈ TB := List.mem_filter.mpr ⟨List.mem_append_right _ (List.mem_of_getElem? (i := 152) (by decide +kernel)), by decide +kernel⟩
theorem tf_X0_52 : Cond.fieldLink RX0 52 "LampBus$Gear" "search" "I" ∈ TB := List.mem_filter.mpr ⟨List.mem_append_right _ (List.mem_of_getElem? (i := 153) (by decide +kernel)), by decide +kernel⟩
theorem tf_X0_58 : Cond.fieldLink RX0 58 "LampBus$Gear" "initialised" "Z" ∈ TB := List.mem_filter.mpr ⟨List.mem_append_right _ (List.mem_of_getElem? (i := 154) (by decide +kernel)), by decide +kernel⟩
theorem tf_X0_62 : Cond.fieldLink RX0 62 "LampBus$Gear" "withdrawn" "Z" ∈ TB := List.mem_filter.mpr ⟨List.mem_append_right _ (List.mem_of_getElem? (i := 155) (by decide +kernel)), by decide +kernel⟩
theorem tf_X1_51 : Cond.fieldLink RX1 51 "LampBus$Lamp" "FADE_TICKS" "[I" ∈ TB := List.mem_filter.mpr ⟨List.mem_append_right _ (List.mem_of_getElem? (i := 330) (by decide +kernel)), by decide +kernel⟩
theorem tf_X1_61 : Cond.fieldLink RX1 61 "LampBus$Lamp" "RATE_STEPS" "[I" ∈ TB := List.mem_filter.mpr ⟨List.mem_append_right _ (List.mem_of_getElem? (i := 357) (by decide +kernel)), by decide +kernel⟩
theorem tf_X3_82 : Cond.fieldLink RX3 82 "LampBusModel" "gears" "I" ∈ TB := List.mem_filter.mpr ⟨List.mem_append_right _ (List.mem_of_getElem? (i := 466) (by decide +kernel)), by decide +kernel⟩
theorem tf_X3_7 : Cond.fieldLink RX3 7 "LampBusModel" "levels" "[I" ∈ TB := List.mem_filter.mpr ⟨List.mem_append_right _ (List.mem_of_getElem? (i := 467) (by decide +kernel)), by decide +kernel⟩
theorem tf_X3_13 : Cond.fieldLink RX3 13 "LampBusModel" "leasts" "[I" ∈ TB := List.mem_filter.mpr ⟨List.mem_append_right _ (List.mem_of_getElem? (i := 468) (by decide +kernel)), by decide +kernel⟩
theorem tf_X3_16 : Cond.fieldLink RX3 16 "LampBusModel" "mosts" "[I" ∈ TB := List.mem_filter.mpr ⟨List.mem_append_right _ (List.mem_of_getElem? (i := 469) (by decide +kernel)), by decide +kernel⟩
theorem tf_X3_19 : Cond.fieldLink RX3 19 "LampBusModel" "powers" "[I" ∈ TB := List.mem_filter.mpr ⟨List.mem_append_right _ (List.mem_of_getElem? (i := 470) (by decide +kernel)), by decide +kernel⟩
theorem tf_X3_22 : Cond.fieldLink RX3 22 "LampBusModel" "fails" "[I" ∈ TB := List.mem_filter.mpr ⟨List.mem_append_right _ (List.mem_of_getElem? (i := 471) (by decide +kernel)), by decide +kernel⟩
theorem tf_X3_25 : Cond.fieldLink RX3 25 "LampBusModel" "fades" "[I" ∈ TB := List.mem_filter.mpr ⟨List.mem_append_right _ (List.mem_of_getElem? (i := 472) (by decide +kernel)), by decide +kernel⟩
theorem tf_X3_28 : Cond.fieldLink RX3 28 "LampBusModel" "rates" "[I" ∈ TB := List.mem_filter.mpr ⟨List.mem_append_right _ (List.mem_of_getElem? (i := 473) (by decide +kernel)), by decide +kernel⟩
theorem tf_X3_31 : Cond.fieldLink RX3 31 "LampBusModel" "groups" "[I" ∈ TB := List.mem_filter.mpr ⟨List.mem_append_right _ (List.mem_of_getElem? (i := 474) (by decide +kernel)), by decide +kernel⟩
theorem tf_X3_34 : Cond.fieldLink RX3 34 "LampBusModel" "scenes" "[I" ∈ TB := List.mem_filter.mpr ⟨List.mem_append_right _ (List.mem_of_getElem? (i := 475) (by decide +kernel)), by decide +kernel⟩
theorem tf_X3_37 : Cond.fieldLink RX3 37 "LampBusModel" "shorts" "[I" ∈ TB := List.mem_filter.mpr ⟨List.mem_append_right _ (List.mem_of_getElem? (i := 476) (by decide +kernel)), by decide +kernel⟩
theorem tf_X3_40 : Cond.fieldLink RX3 40 "LampBusModel" "randoms" "[I" ∈ TB := List.mem_filter.mpr ⟨List.mem_append_right _ (List.mem_of_getElem? (i := 477) (by decide +kernel)), by decide +kernel⟩
theorem tf_X3_43 : Cond.fieldLink RX3 43 "LampBusModel" "bytes" "[I" ∈ TB := List.mem_filter.mpr ⟨List.mem_append_right _ (List.mem_of_getElem? (i := 478) (by decide +kernel)), by decide +kernel⟩
theorem tf_X3_46 : Cond.fieldLink RX3 46 "LampBusModel" "searches" "[I" ∈ TB := List.mem_filter.mpr ⟨List.mem_append_right _ (List.mem_of_getElem? (i := 479) (by decide +kernel)), by decide +kernel⟩
theorem tf_X3_49 : Cond.fieldLink RX3 49 "LampBusModel" "nexts" "[I" ∈ TB := List.mem_filter.mpr ⟨List.mem_append_right _ (List.mem_of_getElem? (i := 480) (by decide +kernel)), by decide +kernel⟩
theorem tf_X3_52 : Cond.fieldLink RX3 52 "LampBusModel" "initialised" "[Z" ∈ TB := List.mem_filter.mpr ⟨List.mem_append_right _ (List.mem_of_getElem? (i := 481) (by decide +kernel)), by decide +kernel⟩
theorem tf_X3_56 : Cond.fieldLink RX3 56 "LampBusModel" "withdrawn" "[Z" ∈ TB := List.mem_filter.mpr ⟨List.mem_append_right _ (List.mem_of_getElem? (i := 482) (by decide +kernel)), by decide +kernel⟩
theorem tf_X3_59 : Cond.fieldLink RX3 59 "LampBusModel" "goals" "[I" ∈ TB := List.mem_filter.mpr ⟨List.mem_append_right _ (List.mem_of_getElem? (i := 483) (by decide +kernel)), by decide +kernel⟩
theorem tf_X3_62 : Cond.fieldLink RX3 62 "LampBusModel" "begins" "[I" ∈ TB := List.mem_filter.mpr ⟨List.mem_append_right _ (List.mem_of_getElem? (i := 484) (by decide +kernel)), by decide +kernel⟩
theorem tf_X3_65 : Cond.fieldLink RX3 65 "LampBusModel" "spans" "[I" ∈ TB := List.mem_filter.mpr ⟨List.mem_append_right _ (List.mem_of_getElem? (i := 485) (by decide +kernel)), by decide +kernel⟩
theorem tf_X3_68 : Cond.fieldLink RX3 68 "LampBusModel" "gone" "[I" ∈ TB := List.mem_filter.mpr ⟨List.mem_append_right _ (List.mem_of_getElem? (i := 486) (by decide +kernel)), by decide +kernel⟩
theorem tf_X3_71 : Cond.fieldLink RX3 71 "LampBusModel" "ticks" "[I" ∈ TB := List.mem_filter.mpr ⟨List.mem_append_right _ (List.mem_of_getElem? (i := 487) (by decide +kernel)), by decide +kernel⟩
theorem tf_X3_74 : Cond.fieldLink RX3 74 "LampBusModel" "steps" "[I" ∈ TB := List.mem_filter.mpr ⟨List.mem_append_right _ (List.mem_of_getElem? (i := 488) (by decide +kernel)), by decide +kernel⟩
theorem tf_X3_143 : Cond.fieldLink RX3 143 "LampBusModel" "frames" "I" ∈ TB := List.mem_filter.mpr ⟨List.mem_append_right _ (List.mem_of_getElem? (i := 489) (by decide +kernel)), by decide +kernel⟩
theorem tf_X3_161 : Cond.fieldLink RX3 161 "LampBusModel" "compares" "I" ∈ TB := List.mem_filter.mpr ⟨List.mem_append_right _ (List.mem_of_getElem? (i := 490) (by decide +kernel)), by decide +kernel⟩
theorem tf_X3_133 : Cond.fieldLink RX3 133 "LampBusModel" "may" "Z" ∈ TB := List.mem_filter.mpr ⟨List.mem_append_right _ (List.mem_of_getElem? (i := 491) (by decide +kernel)), by decide +kernel⟩
theorem tf_X3_137 : Cond.fieldLink RX3 137 "LampBusModel" "lastA" "I" ∈ TB := List.mem_filter.mpr ⟨List.mem_append_right _ (List.mem_of_getElem? (i := 492) (by decide +kernel)), by decide +kernel⟩
theorem tf_X3_140 : Cond.fieldLink RX3 140 "LampBusModel" "lastB" "I" ∈ TB := List.mem_filter.mpr ⟨List.mem_append_right _ (List.mem_of_getElem? (i := 493) (by decide +kernel)), by decide +kernel⟩
theorem tf_X3_105 : Cond.fieldLink RX3 105 "LampBusModel" "heard" "I" ∈ TB := List.mem_filter.mpr ⟨List.mem_append_right _ (List.mem_of_getElem? (i := 494) (by decide +kernel)), by decide +kernel⟩
theorem tk_X0_48 : Cond.constant RX0 48 16777215 ∈ TB := List.mem_filter.mpr ⟨List.mem_append_right _ (List.mem_of_getElem? (i := 136) (by decide +kernel)), by decide +kernel⟩
theorem tk_J8_200 : Cond.constant RJ8 200 2147483639 ∈ TB := List.mem_filter.mpr ⟨List.mem_append_right _ (List.mem_of_getElem? (i := 204) (by decide +kernel)), by decide +kernel⟩
theorem tk_X2_31 : Cond.constant RX2 31 16777215 ∈ TB := List.mem_filter.mpr ⟨List.mem_append_right _ (List.mem_of_getElem? (i := 242) (by decide +kernel)), by decide +kernel⟩
theorem tk_X0_149 : Cond.constant RX0 149 65535 ∈ TB := List.mem_filter.mpr ⟨List.mem_append_right _ (List.mem_of_getElem? (i := 276) (by decide +kernel)), by decide +kernel⟩
theorem tk_X0_150 : Cond.constant RX0 150 16711935 ∈ TB := List.mem_filter.mpr ⟨List.mem_append_right _ (List.mem_of_getElem? (i := 277) (by decide +kernel)), by decide +kernel⟩
theorem tk_X0_151 : Cond.constant RX0 151 16776960 ∈ TB := List.mem_filter.mpr ⟨List.mem_append_right _ (List.mem_of_getElem? (i := 278) (by decide +kernel)), by decide +kernel⟩
theorem tk_X3_81 : Cond.constant RX3 81 16777215 ∈ TB := List.mem_filter.mpr ⟨List.mem_append_right _ (List.mem_of_getElem? (i := 565) (by decide +kernel)), by decide +kernel⟩
theorem tk_X3_132 : Cond.constant RX3 132 65536 ∈ TB := List.mem_filter.mpr ⟨List.mem_append_right _ (List.mem_of_getElem? (i := 589) (by decide +kernel)), by decide +kernel⟩
theorem tk_X3_168 : Cond.constant RX3 168 8388608 ∈ TB := List.mem_filter.mpr ⟨List.mem_append_right _ (List.mem_of_getElem? (i := 655) (by decide +kernel)), by decide +kernel⟩
theorem td_L_7 : Cond.classLink RL 7 RX2 ∈ TB := List.mem_filter.mpr ⟨List.mem_append_right _ (List.mem_of_getElem? (i := 14) (by decide +kernel)), by decide +kernel⟩
theorem td_X2_7 : Cond.classLink RX2 7 RJx4a65c ∈ TB := List.mem_filter.mpr ⟨List.mem_append_right _ (List.mem_of_getElem? (i := 22) (by decide +kernel)), by decide +kernel⟩
theorem td_X2_20 : Cond.classLink RX2 20 RX0 ∈ TB := List.mem_filter.mpr ⟨List.mem_append_right _ (List.mem_of_getElem? (i := 75) (by decide +kernel)), by decide +kernel⟩
theorem td_X0_9 : Cond.classLink RX0 9 RX1 ∈ TB := List.mem_filter.mpr ⟨List.mem_append_right _ (List.mem_of_getElem? (i := 81) (by decide +kernel)), by decide +kernel⟩
theorem td_L_10 : Cond.classLink RL 10 RX3 ∈ TB := List.mem_filter.mpr ⟨List.mem_append_right _ (List.mem_of_getElem? (i := 460) (by decide +kernel)), by decide +kernel⟩
theorem tw_X2 : Cond.instantiable RX2 6 ∈ TB := List.mem_filter.mpr ⟨List.mem_append_right _ (List.mem_of_getElem? (i := 15) (by decide +kernel)), by decide +kernel⟩
theorem tw_Jx4a65c : Cond.instantiable RJx4a65c 3 ∈ TB := List.mem_filter.mpr ⟨List.mem_append_right _ (List.mem_of_getElem? (i := 23) (by decide +kernel)), by decide +kernel⟩
theorem tw_X0 : Cond.instantiable RX0 12 ∈ TB := List.mem_filter.mpr ⟨List.mem_append_right _ (List.mem_of_getElem? (i := 76) (by decide +kernel)), by decide +kernel⟩
theorem tw_X1 : Cond.instantiable RX1 9 ∈ TB := List.mem_filter.mpr ⟨List.mem_append_right _ (List.mem_of_getElem? (i := 82) (by decide +kernel)), by decide +kernel⟩
theorem tw_X3 : Cond.instantiable RX3 30 ∈ TB := List.mem_filter.mpr ⟨List.mem_append_right _ (List.mem_of_getElem? (i := 461) (by decide +kernel)), by decide +kernel⟩
theorem nm_X2_22 : Cond.methodLinkNest RX2 22 yX0_init "LampBus" ∈ NW := List.mem_filter.mpr ⟨List.mem_append_right _ (List.mem_of_getElem? (i := 77) (by decide +kernel)), by decide +kernel⟩
theorem nm_X0_11 : Cond.methodLinkNest RX0 11 yX1_init "LampBus" ∈ NW := List.mem_filter.mpr ⟨List.mem_append_right _ (List.mem_of_getElem? (i := 83) (by decide +kernel)), by decide +kernel⟩
theorem nm_X0_32 : Cond.methodLinkNest RX0 32 yX1_reset "LampBus" ∈ NW := List.mem_filter.mpr ⟨List.mem_append_right _ (List.mem_of_getElem? (i := 125) (by decide +kernel)), by decide +kernel⟩
theorem nm_X2_97 : Cond.methodLinkNest RX2 97 yX0_hearSpecial "LampBus" ∈ NW := List.mem_filter.mpr ⟨List.mem_append_right _ (List.mem_of_getElem? (i := 272) (by decide +kernel)), by decide +kernel⟩
theorem nm_X2_104 : Cond.methodLinkNest RX2 104 yX0_isMeantBy "LampBus" ∈ NW := List.mem_filter.mpr ⟨List.mem_append_right _ (List.mem_of_getElem? (i := 305) (by decide +kernel)), by decide +kernel⟩
theorem nm_X2_107 : Cond.methodLinkNest RX2 107 yX0_hearLevel "LampBus" ∈ NW := List.mem_filter.mpr ⟨List.mem_append_right _ (List.mem_of_getElem? (i := 309) (by decide +kernel)), by decide +kernel⟩
theorem nm_X0_65 : Cond.methodLinkNest RX0 65 yX1_endFade "LampBus" ∈ NW := List.mem_filter.mpr ⟨List.mem_append_right _ (List.mem_of_getElem? (i := 313) (by decide +kernel)), by decide +kernel⟩
theorem nm_X0_76 : Cond.methodLinkNest RX0 76 yX1_goTo "LampBus" ∈ NW := List.mem_filter.mpr ⟨List.mem_append_right _ (List.mem_of_getElem? (i := 314) (by decide +kernel)), by decide +kernel⟩
theorem nm_X2_110 : Cond.methodLinkNest RX2 110 yX0_hearCommand "LampBus" ∈ NW := List.mem_filter.mpr ⟨List.mem_append_right _ (List.mem_of_getElem? (i := 332) (by decide +kernel)), by decide +kernel⟩
theorem nm_X0_145 : Cond.methodLinkNest RX0 145 yX1_isFading "LampBus" ∈ NW := List.mem_filter.mpr ⟨List.mem_append_right _ (List.mem_of_getElem? (i := 344) (by decide +kernel)), by decide +kernel⟩
theorem nm_X0_72 : Cond.methodLinkNest RX0 72 yX1_setLevel "LampBus" ∈ NW := List.mem_filter.mpr ⟨List.mem_append_right _ (List.mem_of_getElem? (i := 352) (by decide +kernel)), by decide +kernel⟩
theorem nm_X0_88 : Cond.methodLinkNest RX0 88 yX1_rateStep "LampBus" ∈ NW := List.mem_filter.mpr ⟨List.mem_append_right _ (List.mem_of_getElem? (i := 353) (by decide +kernel)), by decide +kernel⟩
theorem nm_X0_92 : Cond.methodLinkNest RX0 92 yX1_moveBy "LampBus" ∈ NW := List.mem_filter.mpr ⟨List.mem_append_right _ (List.mem_of_getElem? (i := 359) (by decide +kernel)), by decide +kernel⟩
theorem nm_X0_101 : Cond.methodLinkNest RX0 101 yX1_stepDownOrOff "LampBus" ∈ NW := List.mem_filter.mpr ⟨List.mem_append_right _ (List.mem_of_getElem? (i := 363) (by decide +kernel)), by decide +kernel⟩
theorem nm_X0_104 : Cond.methodLinkNest RX0 104 yX1_onOrStepUp "LampBus" ∈ NW := List.mem_filter.mpr ⟨List.mem_append_right _ (List.mem_of_getElem? (i := 367) (by decide +kernel)), by decide +kernel⟩
theorem nm_X0_113 : Cond.methodLinkNest RX0 113 yX1_setMost "LampBus" ∈ NW := List.mem_filter.mpr ⟨List.mem_append_right _ (List.mem_of_getElem? (i := 379) (by decide +kernel)), by decide +kernel⟩
theorem nm_X0_116 : Cond.methodLinkNest RX0 116 yX1_setLeast "LampBus" ∈ NW := List.mem_filter.mpr ⟨List.mem_append_right _ (List.mem_of_getElem? (i := 385) (by decide +kernel)), by decide +kernel⟩
theorem nm_X0_119 : Cond.methodLinkNest RX0 119 yX1_setFade "LampBus" ∈ NW := List.mem_filter.mpr ⟨List.mem_append_right _ (List.mem_of_getElem? (i := 389) (by decide +kernel)), by decide +kernel⟩
theorem nm_X0_122 : Cond.methodLinkNest RX0 122 yX1_setRate "LampBus" ∈ NW := List.mem_filter.mpr ⟨List.mem_append_right _ (List.mem_of_getElem? (i := 393) (by decide +kernel)), by decide +kernel⟩
theorem nm_X2_58 : Cond.methodLinkNest RX2 58 yX1_passTicks "LampBus" ∈ NW := List.mem_filter.mpr ⟨List.mem_append_right _ (List.mem_of_getElem? (i := 405) (by decide +kernel)), by decide +kernel⟩
theorem nm_X2_64 : Cond.methodLinkNest RX2 64 yX1_isFading "LampBus" ∈ NW := List.mem_filter.mpr ⟨List.mem_append_right _ (List.mem_of_getElem? (i := 409) (by decide +kernel)), by decide +kernel⟩
theorem nm_X2_68 : Cond.methodLinkNest RX2 68 yX0_startAgain "LampBus" ∈ NW := List.mem_filter.mpr ⟨List.mem_append_right _ (List.mem_of_getElem? (i := 414) (by decide +kernel)), by decide +kernel⟩
theorem nm_X0_68 : Cond.methodLinkNest RX0 68 yX1_offOrClamped "LampBus" ∈ NW := List.mem_filter.mpr ⟨List.mem_append_right _ (List.mem_of_getElem? (i := 418) (by decide +kernel)), by decide +kernel⟩
theorem nm_X2_74 : Cond.methodLinkNest RX2 74 yX0_goToUnlessUnset "LampBus" ∈ NW := List.mem_filter.mpr ⟨List.mem_append_right _ (List.mem_of_getElem? (i := 423) (by decide +kernel)), by decide +kernel⟩
theorem nm_X2_86 : Cond.methodLinkNest RX2 86 yX0_valueOf "LampBus" ∈ NW := List.mem_filter.mpr ⟨List.mem_append_right _ (List.mem_of_getElem? (i := 452) (by decide +kernel)), by decide +kernel⟩
theorem nf_X0_110 : Cond.fieldLinkNest RX0 110 "LampBus$Lamp" "level" "I" "LampBus" ∈ NW := List.mem_filter.mpr ⟨List.mem_append_right _ (List.mem_of_getElem? (i := 88) (by decide +kernel)), by decide +kernel⟩
theorem nf_X0_98 : Cond.fieldLinkNest RX0 98 "LampBus$Lamp" "least" "I" "LampBus" ∈ NW := List.mem_filter.mpr ⟨List.mem_append_right _ (List.mem_of_getElem? (i := 90) (by decide +kernel)), by decide +kernel⟩
theorem nf_X0_95 : Cond.fieldLinkNest RX0 95 "LampBus$Lamp" "most" "I" "LampBus" ∈ NW := List.mem_filter.mpr ⟨List.mem_append_right _ (List.mem_of_getElem? (i := 92) (by decide +kernel)), by decide +kernel⟩
theorem nf_X0_139 : Cond.fieldLinkNest RX0 139 "LampBus$Lamp" "fade" "I" "LampBus" ∈ NW := List.mem_filter.mpr ⟨List.mem_append_right _ (List.mem_of_getElem? (i := 94) (by decide +kernel)), by decide +kernel⟩
theorem nf_X0_142 : Cond.fieldLinkNest RX0 142 "LampBus$Lamp" "rate" "I" "LampBus" ∈ NW := List.mem_filter.mpr ⟨List.mem_append_right _ (List.mem_of_getElem? (i := 96) (by decide +kernel)), by decide +kernel⟩
theorem nf_X0_166 : Cond.fieldLinkNest RX0 166 "LampBus$Lamp" "fadeEnd" "I" "LampBus" ∈ NW := List.mem_filter.mpr ⟨List.mem_append_right _ (List.mem_of_getElem? (i := 99) (by decide +kernel)), by decide +kernel⟩
theorem nf_X2_54 : Cond.fieldLinkNest RX2 54 "LampBus$Gear" "lamp" "LLampBus$Lamp;" "LampBus" ∈ NW := List.mem_filter.mpr ⟨List.mem_append_right _ (List.mem_of_getElem? (i := 142) (by decide +kernel)), by decide +kernel⟩
theorem nf_X2_71 : Cond.fieldLinkNest RX2 71 "LampBus$Gear" "failLevel" "I" "LampBus" ∈ NW := List.mem_filter.mpr ⟨List.mem_append_right _ (List.mem_of_getElem? (i := 146) (by decide +kernel)), by decide +kernel⟩
theorem nf_X2_36 : Cond.fieldLinkNest RX2 36 "LampBus$Gear" "nextRandom" "I" "LampBus" ∈ NW := List.mem_filter.mpr ⟨List.mem_append_right _ (List.mem_of_getElem? (i := 150) (by decide +kernel)), by decide +kernel⟩
theorem nc_X0_X0 : Cond.castable "LampBus$Gear" "LampBus$Gear" ∈ NW := List.mem_filter.mpr ⟨List.mem_append_right _ (List.mem_of_getElem? (i := 668) (by decide +kernel)), by decide +kernel⟩
theorem nc_X2_Obj : Cond.castable "LampBus" "java/lang/Object" ∈ NW := List.mem_filter.mpr ⟨List.mem_append_right _ (List.mem_of_getElem? (i := 672) (by decide +kernel)), by decide +kernel⟩
theorem nc_X3_Obj : Cond.castable "LampBusModel" "java/lang/Object" ∈ NW := List.mem_filter.mpr ⟨List.mem_append_right _ (List.mem_of_getElem? (i := 673) (by decide +kernel)), by decide +kernel⟩
theorem nc_X0_Obj : Cond.castable "LampBus$Gear" "java/lang/Object" ∈ NW := List.mem_filter.mpr ⟨List.mem_append_right _ (List.mem_of_getElem? (i := 674) (by decide +kernel)), by decide +kernel⟩
theorem nc_X1_Obj : Cond.castable "LampBus$Lamp" "java/lang/Object" ∈ NW := List.mem_filter.mpr ⟨List.mem_append_right _ (List.mem_of_getElem? (i := 675) (by decide +kernel)), by decide +kernel⟩
theorem iu_Jx4a65c : ∀ w ∈ u_ws RJx4a65c TJx4a65c 3, w ∈ TB := by decide +kernel
theorem iu_X0 : ∀ w ∈ u_ws RX0 TX0 12, w ∈ TB := by decide +kernel
theorem iu_X1 : ∀ w ∈ u_ws RX1 TX1 9, w ∈ TB := by decide +kernel
theorem iu_X2 : ∀ w ∈ u_ws RX2 TX2 6, w ∈ TB := by decide +kernel
theorem iu_X3 : ∀ w ∈ u_ws RX3 TX3 30, w ∈ TB := by decide +kernel
theorem ok_X0_init : Cok yX0_init cX0_init 1 none 0 := ⟨tc_X0_init, ti_X0, by decide +kernel⟩
theorem ok_X0_reset : Cok yX0_reset cX0_reset 1 none 0 := ⟨tc_X0_reset, ti_X0, by decide +kernel⟩
theorem ok_X0_forgetSearch : Cok yX0_forgetSearch cX0_forgetSearch 1 none 0 := ⟨tc_X0_forgetSearch, ti_X0, by decide +kernel⟩
theorem ok_X0_startAgain : Cok yX0_startAgain cX0_startAgain 1 none 0 := ⟨tc_X0_startAgain, ti_X0, by decide +kernel⟩
theorem ok_X0_isMeantBy : Cok yX0_isMeantBy cX0_isMeantBy 2 (some .boolean) 1 := ⟨tc_X0_isMeantBy, ti_X0, by decide +kernel⟩
theorem ok_X0_hearLevel : Cok yX0_hearLevel cX0_hearLevel 2 none 1 := ⟨tc_X0_hearLevel, ti_X0, by decide +kernel⟩
theorem ok_X0_goToUnlessUnset : Cok yX0_goToUnlessUnset cX0_goToUnlessUnset 2 none 1 := ⟨tc_X0_goToUnlessUnset, ti_X0, by decide +kernel⟩
theorem ok_X0_hearCommand : Cok yX0_hearCommand cX0_hearCommand 3 (some .int) 2 := ⟨tc_X0_hearCommand, ti_X0, by decide +kernel⟩
theorem ok_X0_light : Cok yX0_light cX0_light 2 none 1 := ⟨tc_X0_light, ti_X0, by decide +kernel⟩
theorem ok_X0_configure : Cok yX0_configure cX0_configure 2 none 1 := ⟨tc_X0_configure, ti_X0, by decide +kernel⟩
theorem ok_X0_configureNumbered : Cok yX0_configureNumbered cX0_configureNumbered 3 none 2 := ⟨tc_X0_configureNumbered, ti_X0, by decide +kernel⟩
theorem ok_X0_answerTo : Cok yX0_answerTo cX0_answerTo 2 (some .int) 1 := ⟨tc_X0_answerTo, ti_X0, by decide +kernel⟩
theorem ok_X0_status : Cok yX0_status cX0_status 4 (some .int) 0 := ⟨tc_X0_status, ti_X0, by decide +kernel⟩
theorem ok_X0_yesIf : Cok yX0_yesIf cX0_yesIf 1 (some .int) 1 := ⟨tc_X0_yesIf, ti_X0, by decide +kernel⟩
theorem ok_X0_hearSpecial : Cok yX0_hearSpecial cX0_hearSpecial 4 (some .int) 3 := ⟨tc_X0_hearSpecial, ti_X0, by decide +kernel⟩
theorem ok_X0_isToInitialise : Cok yX0_isToInitialise cX0_isToInitialise 2 (some .boolean) 1 := ⟨tc_X0_isToInitialise, ti_X0, by decide +kernel⟩
theorem ok_X0_hearInSearch : Cok yX0_hearInSearch cX0_hearInSearch 3 (some .int) 2 := ⟨tc_X0_hearInSearch, ti_X0, by decide +kernel⟩
theorem ok_X0_isShortOf : Cok yX0_isShortOf cX0_isShortOf 2 (some .boolean) 1 := ⟨tc_X0_isShortOf, ti_X0, by decide +kernel⟩
theorem ok_X0_takeShort : Cok yX0_takeShort cX0_takeShort 2 none 1 := ⟨tc_X0_takeShort, ti_X0, by decide +kernel⟩
theorem ok_X0_valueOf : Cok yX0_valueOf cX0_valueOf 2 (some .int) 1 := ⟨tc_X0_valueOf, ti_X0, by decide +kernel⟩
theorem ok_X1_init : Cok yX1_init cX1_init 1 none 0 := ⟨tc_X1_init, ti_X1, by decide +kernel⟩
theorem ok_X1_reset : Cok yX1_reset cX1_reset 1 none 0 := ⟨tc_X1_reset, ti_X1, by decide +kernel⟩
theorem ok_X1_isFading : Cok yX1_isFading cX1_isFading 1 (some .boolean) 0 := ⟨tc_X1_isFading, ti_X1, by decide +kernel⟩
theorem ok_X1_endFade : Cok yX1_endFade cX1_endFade 1 none 0 := ⟨tc_X1_endFade, ti_X1, by decide +kernel⟩
theorem ok_X1_setLevel : Cok yX1_setLevel cX1_setLevel 2 none 1 := ⟨tc_X1_setLevel, ti_X1, by decide +kernel⟩
theorem ok_X1_clamped : Cok yX1_clamped cX1_clamped 2 (some .int) 1 := ⟨tc_X1_clamped, ti_X1, by decide +kernel⟩
theorem ok_X1_offOrClamped : Cok yX1_offOrClamped cX1_offOrClamped 2 (some .int) 1 := ⟨tc_X1_offOrClamped, ti_X1, by decide +kernel⟩
theorem ok_X1_goTo : Cok yX1_goTo cX1_goTo 3 none 1 := ⟨tc_X1_goTo, ti_X1, by decide +kernel⟩
theorem ok_X1_passTicks : Cok yX1_passTicks cX1_passTicks 3 none 1 := ⟨tc_X1_passTicks, ti_X1, by decide +kernel⟩
theorem ok_X1_moveBy : Cok yX1_moveBy cX1_moveBy 2 none 1 := ⟨tc_X1_moveBy, ti_X1, by decide +kernel⟩
theorem ok_X1_rateStep : Cok yX1_rateStep cX1_rateStep 1 (some .int) 0 := ⟨tc_X1_rateStep, ti_X1, by decide +kernel⟩
theorem ok_X1_stepDownOrOff : Cok yX1_stepDownOrOff cX1_stepDownOrOff 1 none 0 := ⟨tc_X1_stepDownOrOff, ti_X1, by decide +kernel⟩
theorem ok_X1_onOrStepUp : Cok yX1_onOrStepUp cX1_onOrStepUp 1 none 0 := ⟨tc_X1_onOrStepUp, ti_X1, by decide +kernel⟩
theorem ok_X1_setMost : Cok yX1_setMost cX1_setMost 2 none 1 := ⟨tc_X1_setMost, ti_X1, by decide +kernel⟩
theorem ok_X1_setLeast : Cok yX1_setLeast cX1_setLeast 2 none 1 := ⟨tc_X1_setLeast, ti_X1, by decide +kernel⟩
theorem ok_X1_setFade : Cok yX1_setFade cX1_setFade 2 none 1 := ⟨tc_X1_setFade, ti_X1, by decide +kernel⟩
theorem ok_X1_setRate : Cok yX1_setRate cX1_setRate 2 none 1 := ⟨tc_X1_setRate, ti_X1, by decide +kernel⟩
theorem ok_X2_init : Cok yX2_init cX2_init 1 none 0 := ⟨tc_X2_init, ti_X2, by decide +kernel⟩
theorem ok_X2_gear : Cok yX2_gear cX2_gear 1 (some .int) 0 := ⟨tc_X2_gear, ti_X2, by decide +kernel⟩
theorem ok_X2_give : Cok yX2_give cX2_give 3 (some .boolean) 2 := ⟨tc_X2_give, ti_X2, by decide +kernel⟩
theorem ok_X2_send : Cok yX2_send cX2_send 4 (some .int) 2 := ⟨tc_X2_send, ti_X2, by decide +kernel⟩
theorem ok_X2_tick : Cok yX2_tick cX2_tick 5 (some .int) 1 := ⟨tc_X2_tick, ti_X2, by decide +kernel⟩
theorem ok_X2_power : Cok yX2_power cX2_power 2 none 0 := ⟨tc_X2_power, ti_X2, by decide +kernel⟩
theorem ok_X2_fail : Cok yX2_fail cX2_fail 3 none 0 := ⟨tc_X2_fail, ti_X2, by decide +kernel⟩
theorem ok_X2_commission : Cok yX2_commission cX2_commission 3 (some .int) 1 := ⟨tc_X2_commission, ti_X2, by decide +kernel⟩
theorem ok_X2_compares : Cok yX2_compares cX2_compares 1 (some .int) 0 := ⟨tc_X2_compares, ti_X2, by decide +kernel⟩
theorem ok_X2_told : Cok yX2_told cX2_told 3 (some .int) 2 := ⟨tc_X2_told, ti_X2, by decide +kernel⟩
theorem ok_X2_frames : Cok yX2_frames cX2_frames 1 (some .int) 0 := ⟨tc_X2_frames, ti_X2, by decide +kernel⟩
theorem ok_X2_isGear : Cok yX2_isGear cX2_isGear 2 (some .boolean) 1 := ⟨tc_X2_isGear, ti_X2, by decide +kernel⟩
theorem ok_X2_isByte : Cok yX2_isByte cX2_isByte 1 (some .boolean) 1 := ⟨tc_X2_isByte, ti_X2, by decide +kernel⟩
theorem ok_X2_sendSpecial : Cok yX2_sendSpecial cX2_sendSpecial 6 (some .int) 2 := ⟨tc_X2_sendSpecial, ti_X2, by decide +kernel⟩
theorem ok_X2_sendAddressed : Cok yX2_sendAddressed cX2_sendAddressed 8 (some .int) 2 := ⟨tc_X2_sendAddressed, ti_X2, by decide +kernel⟩
theorem ok_X2_countFrame : Cok yX2_countFrame cX2_countFrame 4 (some .boolean) 2 := ⟨tc_X2_countFrame, ti_X2, by decide +kernel⟩
theorem ok_X2_joined : Cok yX2_joined cX2_joined 2 (some .int) 2 := ⟨tc_X2_joined, ti_X2, by decide +kernel⟩
theorem ok_X2_sendSearch : Cok yX2_sendSearch cX2_sendSearch 2 none 1 := ⟨tc_X2_sendSearch, ti_X2, by decide +kernel⟩
theorem ok_X2_isAnyWithinSearch : Cok yX2_isAnyWithinSearch cX2_isAnyWithinSearch 1 (some .boolean) 0 := ⟨tc_X2_isAnyWithinSearch, ti_X2, by decide +kernel⟩
theorem ok_X2_isAnyLeft : Cok yX2_isAnyLeft cX2_isAnyLeft 1 (some .boolean) 0 := ⟨tc_X2_isAnyLeft, ti_X2, by decide +kernel⟩
theorem ok_X2_searchLeastRandom : Cok yX2_searchLeastRandom cX2_searchLeastRandom 4 none 0 := ⟨tc_X2_searchLeastRandom, ti_X2, by decide +kernel⟩
theorem ok_X3_init : Cok yX3_init cX3_init 1 none 0 := ⟨tc_X3_init, ti_X3, by decide +kernel⟩
theorem ok_X3_isIn : Cok yX3_isIn cX3_isIn 3 (some .boolean) 3 := ⟨tc_X3_isIn, ti_X3, by decide +kernel⟩
theorem ok_X3_begin : Cok yX3_begin cX3_begin 3 none 1 := ⟨tc_X3_begin, ti_X3, by decide +kernel⟩
theorem ok_X3_gear : Cok yX3_gear cX3_gear 1 (some .int) 0 := ⟨tc_X3_gear, ti_X3, by decide +kernel⟩
theorem ok_X3_no : Cok yX3_no cX3_no 2 (some .boolean) 1 := ⟨tc_X3_no, ti_X3, by decide +kernel⟩
theorem ok_X3_give : Cok yX3_give cX3_give 3 (some .boolean) 2 := ⟨tc_X3_give, ti_X3, by decide +kernel⟩
theorem ok_X3_set : Cok yX3_set cX3_set 3 none 2 := ⟨tc_X3_set, ti_X3, by decide +kernel⟩
theorem ok_X3_within : Cok yX3_within cX3_within 3 (some .int) 2 := ⟨tc_X3_within, ti_X3, by decide +kernel⟩
theorem ok_X3_goTo : Cok yX3_goTo cX3_goTo 4 none 2 := ⟨tc_X3_goTo, ti_X3, by decide +kernel⟩
theorem ok_X3_step : Cok yX3_step cX3_step 3 none 2 := ⟨tc_X3_step, ti_X3, by decide +kernel⟩
theorem ok_X3_bring : Cok yX3_bring cX3_bring 2 none 1 := ⟨tc_X3_bring, ti_X3, by decide +kernel⟩
theorem ok_X3_say : Cok yX3_say cX3_say 2 none 1 := ⟨tc_X3_say, ti_X3, by decide +kernel⟩
theorem ok_X3_command : Cok yX3_command cX3_command 5 none 3 := ⟨tc_X3_command, ti_X3, by decide +kernel⟩
theorem ok_X3_level : Cok yX3_level cX3_level 4 none 2 := ⟨tc_X3_level, ti_X3, by decide +kernel⟩
theorem ok_X3_setShort : Cok yX3_setShort cX3_setShort 3 none 2 := ⟨tc_X3_setShort, ti_X3, by decide +kernel⟩
theorem ok_X3_change : Cok yX3_change cX3_change 6 none 2 := ⟨tc_X3_change, ti_X3, by decide +kernel⟩
theorem ok_X3_ask : Cok yX3_ask cX3_ask 3 none 2 := ⟨tc_X3_ask, ti_X3, by decide +kernel⟩
theorem ok_X3_special : Cok yX3_special cX3_special 7 none 4 := ⟨tc_X3_special, ti_X3, by decide +kernel⟩
theorem ok_X3_isMeant : Cok yX3_isMeant cX3_isMeant 3 (some .boolean) 2 := ⟨tc_X3_isMeant, ti_X3, by decide +kernel⟩
theorem ok_X3_send : Cok yX3_send cX3_send 5 (some .int) 2 := ⟨tc_X3_send, ti_X3, by decide +kernel⟩
theorem ok_X3_tick : Cok yX3_tick cX3_tick 5 (some .int) 1 := ⟨tc_X3_tick, ti_X3, by decide +kernel⟩
theorem ok_X3_power : Cok yX3_power cX3_power 3 none 0 := ⟨tc_X3_power, ti_X3, by decide +kernel⟩
theorem ok_X3_fail : Cok yX3_fail cX3_fail 2 none 0 := ⟨tc_X3_fail, ti_X3, by decide +kernel⟩
theorem ok_X3_search : Cok yX3_search cX3_search 3 (some .int) 1 := ⟨tc_X3_search, ti_X3, by decide +kernel⟩
theorem ok_X3_commission : Cok yX3_commission cX3_commission 6 (some .int) 1 := ⟨tc_X3_commission, ti_X3, by decide +kernel⟩
theorem ok_X3_compares : Cok yX3_compares cX3_compares 1 (some .int) 0 := ⟨tc_X3_compares, ti_X3, by decide +kernel⟩
theorem ok_X3_told : Cok yX3_told cX3_told 3 (some .int) 2 := ⟨tc_X3_told, ti_X3, by decide +kernel⟩
theorem ok_X3_frames : Cok yX3_frames cX3_frames 1 (some .int) 0 := ⟨tc_X3_frames, ti_X3, by decide +kernel⟩
theorem ok_J9_max_7cf53 : Cok yJ9_max_7cf53 cJ9_max_7cf53 2 (some .int) 2 := ⟨tc_J9_max_7cf53, ti_J9, by decide +kernel⟩
theorem ok_J9_min_7cf53 : Cok yJ9_min_7cf53 cJ9_min_7cf53 2 (some .int) 2 := ⟨tc_J9_min_7cf53, ti_J9, by decide +kernel⟩
theorem ok_Jxa1e45_init_da8c8 : Cok yJxa1e45_init_da8c8 cJxa1e45_init_da8c8 1 none 0 := ⟨tc_Jxa1e45_init_da8c8, ti_Jxa1e45, by decide +kernel⟩
theorem ok_Jxc12de_init_da8c8 : Cok yJxc12de_init_da8c8 cJxc12de_init_da8c8 1 none 0 := ⟨tc_Jxc12de_init_da8c8, ti_Jxc12de, by decide +kernel⟩
theorem ok_Jx4a65c_init_da8c8 : Cok yJx4a65c_init_da8c8 cJx4a65c_init_da8c8 1 none 0 := ⟨tc_Jx4a65c_init_da8c8, ti_Jx4a65c, by decide +kernel⟩
theorem ok_Jx4a65c_grow_92f84 : Cok yJx4a65c_grow_92f84 cJx4a65c_grow_92f84 4 (some (.array (.object "java/lang/Object"))) 1 := ⟨tc_Jx4a65c_grow_92f84, ti_Jx4a65c, by decide +kernel⟩
theorem ok_Jx4a65c_grow_d5877 : Cok yJx4a65c_grow_d5877 cJx4a65c_grow_d5877 1 (some (.array (.object "java/lang/Object"))) 0 := ⟨tc_Jx4a65c_grow_d5877, ti_Jx4a65c, by decide +kernel⟩
theorem ok_Jx4a65c_size_8abf5 : Cok yJx4a65c_size_8abf5 cJx4a65c_size_8abf5 1 (some .int) 0 := ⟨tc_Jx4a65c_size_8abf5, ti_Jx4a65c, by decide +kernel⟩
theorem ok_Jx4a65c_elementData_915e3 : Cok yJx4a65c_elementData_915e3 cJx4a65c_elementData_915e3 2 (some (.object "java/lang/Object")) 1 := ⟨tc_Jx4a65c_elementData_915e3, ti_Jx4a65c, by decide +kernel⟩
theorem ok_Jx4a65c_get_915e3 : Cok yJx4a65c_get_915e3 cJx4a65c_get_915e3 2 (some (.object "java/lang/Object")) 1 := ⟨tc_Jx4a65c_get_915e3, ti_Jx4a65c, by decide +kernel⟩
theorem ok_Jx4a65c_add_72be8 : Cok yJx4a65c_add_72be8 cJx4a65c_add_72be8 4 none 3 := ⟨tc_Jx4a65c_add_72be8, ti_Jx4a65c, by decide +kernel⟩
theorem ok_Jx4a65c_add_9ea2d : Cok yJx4a65c_add_9ea2d cJx4a65c_add_9ea2d 2 (some .boolean) 1 := ⟨tc_Jx4a65c_add_9ea2d, ti_Jx4a65c, by decide +kernel⟩
theorem ok_J7_fill_53178 : Cok yJ7_fill_53178 cJ7_fill_53178 4 none 2 := ⟨tc_J7_fill_53178, ti_J7, by decide +kernel⟩
theorem ok_J7_copyOf_1904c : Cok yJ7_copyOf_1904c cJ7_copyOf_1904c 2 (some (.array (.object "java/lang/Object"))) 2 := ⟨tc_J7_copyOf_1904c, ti_J7, by decide +kernel⟩
theorem ok_J7_copyOf_6403c : Cok yJ7_copyOf_6403c cJ7_copyOf_6403c 4 (some (.array (.object "java/lang/Object"))) 3 := ⟨tc_J7_copyOf_6403c, ti_J7, by decide +kernel⟩
theorem ok_J15_checkIndex_7cf53 : Cok yJ15_checkIndex_7cf53 cJ15_checkIndex_7cf53 2 (some .int) 2 := ⟨tc_J15_checkIndex_7cf53, ti_J15, by decide +kernel⟩
theorem ok_J8_newLength_cabcc : Cok yJ8_newLength_cabcc cJ8_newLength_cabcc 4 (some .int) 3 := ⟨tc_J8_newLength_cabcc, ti_J8, by decide +kernel⟩
theorem ok_J8_hugeLength_7cf53 : Cok yJ8_hugeLength_7cf53 cJ8_hugeLength_7cf53 3 (some .int) 2 := ⟨tc_J8_hugeLength_7cf53, ti_J8, by decide +kernel⟩
theorem ok_J3_checkIndex_8e157 : Cok yJ3_checkIndex_8e157 cJ3_checkIndex_8e157 3 (some .int) 3 := ⟨tc_J3_checkIndex_8e157, ti_J3, by decide +kernel⟩
