/-! the words of each method among all words (printed by wip/whole/wwords.py) -/
theorem mb_uws_X0 : ∀ w ∈ u_ws RX0 TX0 3, w ∈ wsG := by decide +kernel
theorem mb_uws_X1 : ∀ w ∈ u_ws RX1 TX1 3, w ∈ wsG := by decide +kernel
theorem mb_uws_X2 : ∀ w ∈ u_ws RX2 TX2 5, w ∈ wsG := by decide +kernel
theorem mb_uws_X3 : ∀ w ∈ u_ws RX3 TX3 8, w ∈ wsG := by decide +kernel
theorem mb_uws_X4 : ∀ w ∈ u_ws RX4 TX4 17, w ∈ wsG := by decide +kernel
theorem mb_methodLink_RX0_1 : (.methodLink RX0 1 objectInit : Cond) ∈ wsG := wsG_t (i := 75) rfl rfl
set_option maxRecDepth 20000 in
theorem mb_methodLink_RX0_7 : (.methodLink RX0 7 yX2_takeNumber : Cond) ∈ wsG := wsG_t (i := 432) rfl rfl
theorem mb_instanceMethod_yX2_takeNumber : (.instanceMethod yX2_takeNumber : Cond) ∈ wsG := wsG_t (i := 336) rfl rfl
theorem mb_selects_yX2_takeNumber : (.selects RX2 yX2_takeNumber yX2_takeNumber : Cond) ∈ wsG := wsG_t (i := 337) rfl rfl
theorem mb_initialized_RX2 : (.initialized RX2 : Cond) ∈ wsG := wsG_t (i := 2) rfl rfl
theorem mb_code_yX2_takeNumber : (.code yX2_takeNumber cX2_takeNumber 5 (some .long) : Cond) ∈ wsG := wsG_t (i := 338) rfl rfl
theorem mb_fieldLink_RX0_13 : (.fieldLink RX0 13 "SortedRun$Entry" "isFirst" "Z" : Cond) ∈ wsG := wsG_t (i := 76) rfl rfl
theorem mb_static_yX3_unfold : (.static yX3_unfold : Cond) ∈ wsG := wsG_t (i := 346) rfl rfl
theorem mb_code_yX3_unfold : (.code yX3_unfold cX3_unfold 4 (some .long) : Cond) ∈ wsG := wsG_t (i := 347) rfl rfl
theorem mb_initialized_RX3 : (.initialized RX3 : Cond) ∈ wsG := wsG_t (i := 1) rfl rfl
theorem mb_fieldLink_RX0_25 : (.fieldLink RX0 25 "SortedRun$Entry" "key" "I" : Cond) ∈ wsG := wsG_t (i := 78) rfl rfl
theorem mb_fieldLink_RX0_29 : (.fieldLink RX0 29 "SortedRun$Entry" "value" "J" : Cond) ∈ wsG := wsG_t (i := 80) rfl rfl
theorem mb_methodLink_RX1_3 : (.methodLink RX1 3 objectInit : Cond) ∈ wsG := wsG_t (i := 58) rfl rfl
theorem mb_arrayClass_int : (.arrayClass .int : Cond) ∈ wsG := wsG_t (i := 50) rfl rfl
theorem mb_fieldLink_RX1_9 : (.fieldLink RX1 9 "SortedRun$Index" "ends" "[I" : Cond) ∈ wsG := wsG_t (i := 59) rfl rfl
theorem mb_fieldLink_RX1_15 : (.fieldLink RX1 15 "SortedRun$Index" "firstKeys" "[I" : Cond) ∈ wsG := wsG_t (i := 60) rfl rfl
theorem mb_fieldLink_RX1_18 : (.fieldLink RX1 18 "SortedRun$Index" "blocks" "I" : Cond) ∈ wsG := wsG_t (i := 61) rfl rfl
theorem mb_methodLink_RX1_27 : (.methodLink RX1 27 yX2_foot : Cond) ∈ wsG := wsG_t (i := 319) rfl rfl
theorem mb_instanceMethod_yX2_foot : (.instanceMethod yX2_foot : Cond) ∈ wsG := wsG_t (i := 320) rfl rfl
theorem mb_selects_yX2_foot : (.selects RX2 yX2_foot yX2_foot : Cond) ∈ wsG := wsG_t (i := 321) rfl rfl
theorem mb_code_yX2_foot : (.code yX2_foot cX2_foot 4 (some .long) : Cond) ∈ wsG := wsG_t (i := 322) rfl rfl
theorem mb_methodLink_RX1_31 : (.methodLink RX1 31 yX2_hasSum : Cond) ∈ wsG := wsG_t (i := 323) rfl rfl
theorem mb_instanceMethod_yX2_hasSum : (.instanceMethod yX2_hasSum : Cond) ∈ wsG := wsG_t (i := 324) rfl rfl
theorem mb_selects_yX2_hasSum : (.selects RX2 yX2_hasSum yX2_hasSum : Cond) ∈ wsG := wsG_t (i := 325) rfl rfl
theorem mb_code_yX2_hasSum : (.code yX2_hasSum cX2_hasSum 5 (some .boolean) : Cond) ∈ wsG := wsG_t (i := 326) rfl rfl
theorem mb_methodLink_RX1_35 : (.methodLink RX1 35 yX2_startReading : Cond) ∈ wsG := wsG_t (i := 327) rfl rfl
theorem mb_instanceMethod_yX2_startReading : (.instanceMethod yX2_startReading : Cond) ∈ wsG := wsG_t (i := 328) rfl rfl
theorem mb_selects_yX2_startReading : (.selects RX2 yX2_startReading yX2_startReading : Cond) ∈ wsG := wsG_t (i := 329) rfl rfl
theorem mb_code_yX2_startReading : (.code yX2_startReading cX2_startReading 3 none : Cond) ∈ wsG := wsG_t (i := 330) rfl rfl
theorem mb_methodLink_RX1_39 : (.methodLink RX1 39 yX1_readBlocks : Cond) ∈ wsG := wsG_t (i := 331) rfl rfl
theorem mb_instanceMethod_yX1_readBlocks : (.instanceMethod yX1_readBlocks : Cond) ∈ wsG := wsG_t (i := 333) rfl rfl
theorem mb_selects_yX1_readBlocks : (.selects RX1 yX1_readBlocks yX1_readBlocks : Cond) ∈ wsG := wsG_of (List.mem_append_left _ (List.mem_of_getElem? (i := 6) rfl)) rfl
theorem mb_initialized_RX1 : (.initialized RX1 : Cond) ∈ wsG := wsG_t (i := 3) rfl rfl
theorem mb_code_yX1_readBlocks : (.code yX1_readBlocks cX1_readBlocks 12 (some .boolean) : Cond) ∈ wsG := wsG_t (i := 334) rfl rfl
theorem mb_methodLink_RX1_47 : (.methodLink RX1 47 yX2_isReadToEnd : Cond) ∈ wsG := wsG_t (i := 348) rfl rfl
theorem mb_instanceMethod_yX2_isReadToEnd : (.instanceMethod yX2_isReadToEnd : Cond) ∈ wsG := wsG_t (i := 349) rfl rfl
theorem mb_selects_yX2_isReadToEnd : (.selects RX2 yX2_isReadToEnd yX2_isReadToEnd : Cond) ∈ wsG := wsG_t (i := 350) rfl rfl
set_option maxRecDepth 20000 in
theorem mb_code_yX2_isReadToEnd : (.code yX2_isReadToEnd cX2_isReadToEnd 1 (some .boolean) : Cond) ∈ wsG := wsG_t (i := 351) rfl rfl
theorem mb_methodLink_RX1_51 : (.methodLink RX1 51 yX2_takeNumber : Cond) ∈ wsG := wsG_t (i := 335) rfl rfl
theorem mb_constantLong_RX1_54 : (.constantLong RX1 54 (2444) : Cond) ∈ wsG := wsG_t (i := 339) rfl rfl
theorem mb_methodLink_RX1_56 : (.methodLink RX1 56 yX1_fitsIndex : Cond) ∈ wsG := wsG_t (i := 340) rfl rfl
theorem mb_instanceMethod_yX1_fitsIndex : (.instanceMethod yX1_fitsIndex : Cond) ∈ wsG := wsG_t (i := 342) rfl rfl
theorem mb_selects_yX1_fitsIndex : (.selects RX1 yX1_fitsIndex yX1_fitsIndex : Cond) ∈ wsG := wsG_of (List.mem_append_left _ (List.mem_of_getElem? (i := 7) rfl)) rfl
theorem mb_code_yX1_fitsIndex : (.code yX1_fitsIndex cX1_fitsIndex 3 (some .boolean) : Cond) ∈ wsG := wsG_t (i := 343) rfl rfl
theorem mb_constantLong_RX1_64 : (.constantLong RX1 64 (4294967295) : Cond) ∈ wsG := wsG_t (i := 344) rfl rfl
theorem mb_methodLink_RX2_3 : (.methodLink RX2 3 objectInit : Cond) ∈ wsG := wsG_t (i := 28) rfl rfl
theorem mb_arrayClass_byte : (.arrayClass .byte : Cond) ∈ wsG := wsG_t (i := 52) rfl rfl
theorem mb_fieldLink_RX2_9 : (.fieldLink RX2 9 "SortedRun$Table" "bytes" "[B" : Cond) ∈ wsG := wsG_t (i := 29) rfl rfl
theorem mb_fieldLink_RX2_15 : (.fieldLink RX2 15 "SortedRun$Table" "length" "I" : Cond) ∈ wsG := wsG_t (i := 31) rfl rfl
theorem mb_constantLong_RX2_19 : (.constantLong RX2 19 (127) : Cond) ∈ wsG := wsG_t (i := 109) rfl rfl
theorem mb_methodLink_RX2_21 : (.methodLink RX2 21 yX2_append : Cond) ∈ wsG := wsG_t (i := 110) rfl rfl
theorem mb_instanceMethod_yX2_append : (.instanceMethod yX2_append : Cond) ∈ wsG := wsG_t (i := 111) rfl rfl
theorem mb_selects_yX2_append : (.selects RX2 yX2_append yX2_append : Cond) ∈ wsG := wsG_t (i := 112) rfl rfl
theorem mb_code_yX2_append : (.code yX2_append cX2_append 2 none : Cond) ∈ wsG := wsG_t (i := 113) rfl rfl
theorem mb_methodLink_RX2_25 : (.methodLink RX2 25 yX2_sumOf : Cond) ∈ wsG := wsG_t (i := 118) rfl rfl
theorem mb_instanceMethod_yX2_sumOf : (.instanceMethod yX2_sumOf : Cond) ∈ wsG := wsG_t (i := 120) rfl rfl
theorem mb_selects_yX2_sumOf : (.selects RX2 yX2_sumOf yX2_sumOf : Cond) ∈ wsG := wsG_of (List.mem_append_left _ (List.mem_of_getElem? (i := 2) rfl)) rfl
theorem mb_code_yX2_sumOf : (.code yX2_sumOf cX2_sumOf 5 (some .int) : Cond) ∈ wsG := wsG_t (i := 121) rfl rfl
theorem mb_methodLink_RX2_29 : (.methodLink RX2 29 yX2_byteAt : Cond) ∈ wsG := wsG_t (i := 122) rfl rfl
theorem mb_instanceMethod_yX2_byteAt : (.instanceMethod yX2_byteAt : Cond) ∈ wsG := wsG_t (i := 123) rfl rfl
theorem mb_selects_yX2_byteAt : (.selects RX2 yX2_byteAt yX2_byteAt : Cond) ∈ wsG := wsG_t (i := 124) rfl rfl
theorem mb_code_yX2_byteAt : (.code yX2_byteAt cX2_byteAt 2 (some .int) : Cond) ∈ wsG := wsG_t (i := 125) rfl rfl
theorem mb_fieldLink_RX2_33 : (.fieldLink RX2 33 "SortedRun$Table" "SUM_STEPS" "[I" : Cond) ∈ wsG := wsG_t (i := 126) rfl rfl
theorem mb_fieldLink_RX2_37 : (.fieldLink RX2 37 "SortedRun$Table" "next" "I" : Cond) ∈ wsG := wsG_t (i := 34) rfl rfl
theorem mb_fieldLink_RX2_40 : (.fieldLink RX2 40 "SortedRun$Table" "end" "I" : Cond) ∈ wsG := wsG_t (i := 35) rfl rfl
theorem mb_fieldLink_RX2_43 : (.fieldLink RX2 43 "SortedRun$Table" "areNumbersRight" "Z" : Cond) ∈ wsG := wsG_t (i := 37) rfl rfl
theorem mb_methodLink_RX3_3 : (.methodLink RX3 3 objectInit : Cond) ∈ wsG := wsG_t (i := 20) rfl rfl
theorem mb_fieldLink_RX3_9 : (.fieldLink RX3 9 "SortedRun" "waitingKeys" "[I" : Cond) ∈ wsG := wsG_t (i := 136) rfl rfl
theorem mb_arrayClass_long : (.arrayClass .long : Cond) ∈ wsG := wsG_t (i := 51) rfl rfl
theorem mb_fieldLink_RX3_13 : (.fieldLink RX3 13 "SortedRun" "waitingValues" "[J" : Cond) ∈ wsG := wsG_t (i := 137) rfl rfl
theorem mb_fieldLink_RX3_17 : (.fieldLink RX3 17 "SortedRun" "blockLengths" "[I" : Cond) ∈ wsG := wsG_t (i := 138) rfl rfl
theorem mb_classLink_RX3_20 : (.classLink RX3 20 RX2 : Cond) ∈ wsG := wsG_t (i := 23) rfl rfl
theorem mb_instantiable_RX2_5 : (.instantiable RX2 5 : Cond) ∈ wsG := wsG_t (i := 24) rfl rfl
theorem mb_code_yX2_init : (.code yX2_init cX2_init 1 none : Cond) ∈ wsG := wsG_t (i := 27) rfl rfl
theorem mb_instanceMethod_yX2_init : (.instanceMethod yX2_init : Cond) ∈ wsG := wsG_t (i := 26) rfl rfl
theorem mb_fieldLink_RX3_23 : (.fieldLink RX3 23 "SortedRun" "table" "LSortedRun$Table;" : Cond) ∈ wsG := wsG_t (i := 139) rfl rfl
theorem mb_classLink_RX3_27 : (.classLink RX3 27 RX1 : Cond) ∈ wsG := wsG_t (i := 53) rfl rfl
theorem mb_instantiable_RX1_3 : (.instantiable RX1 3 : Cond) ∈ wsG := wsG_t (i := 54) rfl rfl
theorem mb_code_yX1_init : (.code yX1_init cX1_init 1 none : Cond) ∈ wsG := wsG_t (i := 57) rfl rfl
theorem mb_instanceMethod_yX1_init : (.instanceMethod yX1_init : Cond) ∈ wsG := wsG_t (i := 56) rfl rfl
theorem mb_fieldLink_RX3_30 : (.fieldLink RX3 30 "SortedRun" "index" "LSortedRun$Index;" : Cond) ∈ wsG := wsG_t (i := 140) rfl rfl
theorem mb_classLink_RX3_34 : (.classLink RX3 34 RX0 : Cond) ∈ wsG := wsG_t (i := 70) rfl rfl
theorem mb_instantiable_RX0_3 : (.instantiable RX0 3 : Cond) ∈ wsG := wsG_t (i := 71) rfl rfl
theorem mb_initialized_RX0 : (.initialized RX0 : Cond) ∈ wsG := wsG_t (i := 4) rfl rfl
theorem mb_code_yX0_init : (.code yX0_init cX0_init 1 none : Cond) ∈ wsG := wsG_t (i := 74) rfl rfl
theorem mb_instanceMethod_yX0_init : (.instanceMethod yX0_init : Cond) ∈ wsG := wsG_t (i := 73) rfl rfl
theorem mb_fieldLink_RX3_37 : (.fieldLink RX3 37 "SortedRun" "entry" "LSortedRun$Entry;" : Cond) ∈ wsG := wsG_t (i := 141) rfl rfl
theorem mb_methodLink_RX3_41 : (.methodLink RX3 41 yX3_writeTable : Cond) ∈ wsG := wsG_t (i := 89) rfl rfl
theorem mb_instanceMethod_yX3_writeTable : (.instanceMethod yX3_writeTable : Cond) ∈ wsG := wsG_t (i := 91) rfl rfl
theorem mb_selects_yX3_writeTable : (.selects RX3 yX3_writeTable yX3_writeTable : Cond) ∈ wsG := wsG_of (List.mem_append_left _ (List.mem_of_getElem? (i := 0) rfl)) rfl
theorem mb_code_yX3_writeTable : (.code yX3_writeTable cX3_writeTable 3 none : Cond) ∈ wsG := wsG_t (i := 92) rfl rfl
theorem mb_fieldLink_RX3_44 : (.fieldLink RX3 44 "SortedRun" "waiting" "I" : Cond) ∈ wsG := wsG_t (i := 142) rfl rfl
theorem mb_classLink_RX3_48 : (.classLink RX3 48 "java/lang/IllegalStateException" : Cond) ∈ wsG := wsG_t (i := 178) rfl rfl
theorem mb_initialized_IllegalStateException : (.initialized "java/lang/IllegalStateException" : Cond) ∈ wsG := wsG_t (i := 10) rfl rfl
theorem mb_classLink_RX3_55 : (.classLink RX3 55 "java/lang/IllegalArgumentException" : Cond) ∈ wsG := wsG_t (i := 247) rfl rfl
theorem mb_initialized_IllegalArgumentException : (.initialized "java/lang/IllegalArgumentException" : Cond) ∈ wsG := wsG_t (i := 11) rfl rfl
theorem mb_methodLink_RX3_63 : (.methodLink RX3 63 yX3_requireByte : Cond) ∈ wsG := wsG_t (i := 271) rfl rfl
theorem mb_instanceMethod_yX3_requireByte : (.instanceMethod yX3_requireByte : Cond) ∈ wsG := wsG_t (i := 273) rfl rfl
theorem mb_selects_yX3_requireByte : (.selects RX3 yX3_requireByte yX3_requireByte : Cond) ∈ wsG := wsG_of (List.mem_append_left _ (List.mem_of_getElem? (i := 5) rfl)) rfl
theorem mb_code_yX3_requireByte : (.code yX3_requireByte cX3_requireByte 2 none : Cond) ∈ wsG := wsG_t (i := 274) rfl rfl
theorem mb_methodLink_RX3_67 : (.methodLink RX3 67 yX2_byteAt : Cond) ∈ wsG := wsG_t (i := 291) rfl rfl
theorem mb_fieldLink_RX3_75 : (.fieldLink RX3 75 "SortedRun" "isOpen" "Z" : Cond) ∈ wsG := wsG_t (i := 143) rfl rfl
theorem mb_methodLink_RX3_81 : (.methodLink RX3 81 yX1_readFrom : Cond) ∈ wsG := wsG_t (i := 315) rfl rfl
theorem mb_instanceMethod_yX1_readFrom : (.instanceMethod yX1_readFrom : Cond) ∈ wsG := wsG_t (i := 316) rfl rfl
theorem mb_selects_yX1_readFrom : (.selects RX1 yX1_readFrom yX1_readFrom : Cond) ∈ wsG := wsG_t (i := 317) rfl rfl
theorem mb_code_yX1_readFrom : (.code yX1_readFrom cX1_readFrom 4 (some .boolean) : Cond) ∈ wsG := wsG_t (i := 318) rfl rfl
set_option maxRecDepth 20000 in
theorem mb_classLink_RX3_85 : (.classLink RX3 85 "java/lang/ArithmeticException" : Cond) ∈ wsG := wsG_t (i := 352) rfl rfl
theorem mb_initialized_ArithmeticException : (.initialized "java/lang/ArithmeticException" : Cond) ∈ wsG := wsG_t (i := 13) rfl rfl
set_option maxRecDepth 20000 in
theorem mb_methodLink_RX3_93 : (.methodLink RX3 93 yX3_requireOpen : Cond) ∈ wsG := wsG_t (i := 376) rfl rfl
set_option maxRecDepth 20000 in
theorem mb_instanceMethod_yX3_requireOpen : (.instanceMethod yX3_requireOpen : Cond) ∈ wsG := wsG_t (i := 378) rfl rfl
theorem mb_selects_yX3_requireOpen : (.selects RX3 yX3_requireOpen yX3_requireOpen : Cond) ∈ wsG := wsG_of (List.mem_append_left _ (List.mem_of_getElem? (i := 8) rfl)) rfl
set_option maxRecDepth 20000 in
theorem mb_code_yX3_requireOpen : (.code yX3_requireOpen cX3_requireOpen 1 none : Cond) ∈ wsG := wsG_t (i := 379) rfl rfl
set_option maxRecDepth 20000 in
theorem mb_methodLink_RX3_96 : (.methodLink RX3 96 yX1_lastBlockNotAbove : Cond) ∈ wsG := wsG_t (i := 381) rfl rfl
set_option maxRecDepth 20000 in
theorem mb_instanceMethod_yX1_lastBlockNotAbove : (.instanceMethod yX1_lastBlockNotAbove : Cond) ∈ wsG := wsG_t (i := 382) rfl rfl
set_option maxRecDepth 20000 in
theorem mb_selects_yX1_lastBlockNotAbove : (.selects RX1 yX1_lastBlockNotAbove yX1_lastBlockNotAbove : Cond) ∈ wsG := wsG_t (i := 383) rfl rfl
set_option maxRecDepth 20000 in
theorem mb_code_yX1_lastBlockNotAbove : (.code yX1_lastBlockNotAbove cX1_lastBlockNotAbove 3 (some .int) : Cond) ∈ wsG := wsG_t (i := 384) rfl rfl
set_option maxRecDepth 20000 in
theorem mb_classLink_RX3_99 : (.classLink RX3 99 "java/util/NoSuchElementException" : Cond) ∈ wsG := wsG_t (i := 385) rfl rfl
theorem mb_initialized_NoSuchElementException : (.initialized "java/util/NoSuchElementException" : Cond) ∈ wsG := wsG_t (i := 14) rfl rfl
set_option maxRecDepth 20000 in
theorem mb_methodLink_RX3_104 : (.methodLink RX3 104 yX3_countRightEntries : Cond) ∈ wsG := wsG_t (i := 401) rfl rfl
set_option maxRecDepth 20000 in
theorem mb_instanceMethod_yX3_countRightEntries : (.instanceMethod yX3_countRightEntries : Cond) ∈ wsG := wsG_t (i := 403) rfl rfl
theorem mb_selects_yX3_countRightEntries : (.selects RX3 yX3_countRightEntries yX3_countRightEntries : Cond) ∈ wsG := wsG_of (List.mem_append_left _ (List.mem_of_getElem? (i := 9) rfl)) rfl
set_option maxRecDepth 20000 in
theorem mb_code_yX3_countRightEntries : (.code yX3_countRightEntries cX3_countRightEntries 3 (some .int) : Cond) ∈ wsG := wsG_t (i := 404) rfl rfl
set_option maxRecDepth 20000 in
theorem mb_methodLink_RX3_107 : (.methodLink RX3 107 yX3_startReading : Cond) ∈ wsG := wsG_t (i := 422) rfl rfl
set_option maxRecDepth 20000 in
theorem mb_instanceMethod_yX3_startReading : (.instanceMethod yX3_startReading : Cond) ∈ wsG := wsG_t (i := 424) rfl rfl
theorem mb_selects_yX3_startReading : (.selects RX3 yX3_startReading yX3_startReading : Cond) ∈ wsG := wsG_of (List.mem_append_left _ (List.mem_of_getElem? (i := 12) rfl)) rfl
set_option maxRecDepth 20000 in
theorem mb_code_yX3_startReading : (.code yX3_startReading cX3_startReading 2 none : Cond) ∈ wsG := wsG_t (i := 425) rfl rfl
set_option maxRecDepth 20000 in
theorem mb_methodLink_RX3_110 : (.methodLink RX3 110 yX0_readNext : Cond) ∈ wsG := wsG_t (i := 428) rfl rfl
set_option maxRecDepth 20000 in
theorem mb_instanceMethod_yX0_readNext : (.instanceMethod yX0_readNext : Cond) ∈ wsG := wsG_t (i := 429) rfl rfl
set_option maxRecDepth 20000 in
theorem mb_selects_yX0_readNext : (.selects RX0 yX0_readNext yX0_readNext : Cond) ∈ wsG := wsG_t (i := 430) rfl rfl
set_option maxRecDepth 20000 in
theorem mb_code_yX0_readNext : (.code yX0_readNext cX0_readNext 4 none : Cond) ∈ wsG := wsG_t (i := 431) rfl rfl
set_option maxRecDepth 20000 in
theorem mb_methodLink_RX3_123 : (.methodLink RX3 123 yX3_requireBlock : Cond) ∈ wsG := wsG_t (i := 443) rfl rfl
set_option maxRecDepth 20000 in
theorem mb_instanceMethod_yX3_requireBlock : (.instanceMethod yX3_requireBlock : Cond) ∈ wsG := wsG_t (i := 445) rfl rfl
theorem mb_selects_yX3_requireBlock : (.selects RX3 yX3_requireBlock yX3_requireBlock : Cond) ∈ wsG := wsG_of (List.mem_append_left _ (List.mem_of_getElem? (i := 13) rfl)) rfl
set_option maxRecDepth 20000 in
theorem mb_code_yX3_requireBlock : (.code yX3_requireBlock cX3_requireBlock 2 none : Cond) ∈ wsG := wsG_t (i := 446) rfl rfl
theorem mb_classLink_RX3_126 : (.classLink RX3 126 "java/lang/IndexOutOfBoundsException" : Cond) ∈ wsG := wsG_t (i := 275) rfl rfl
theorem mb_initialized_IndexOutOfBoundsException : (.initialized "java/lang/IndexOutOfBoundsException" : Cond) ∈ wsG := wsG_t (i := 12) rfl rfl
set_option maxRecDepth 20000 in
theorem mb_methodLink_RX3_137 : (.methodLink RX3 137 yX3_hasRightSum : Cond) ∈ wsG := wsG_t (i := 405) rfl rfl
set_option maxRecDepth 20000 in
theorem mb_instanceMethod_yX3_hasRightSum : (.instanceMethod yX3_hasRightSum : Cond) ∈ wsG := wsG_t (i := 407) rfl rfl
theorem mb_selects_yX3_hasRightSum : (.selects RX3 yX3_hasRightSum yX3_hasRightSum : Cond) ∈ wsG := wsG_of (List.mem_append_left _ (List.mem_of_getElem? (i := 10) rfl)) rfl
set_option maxRecDepth 20000 in
theorem mb_code_yX3_hasRightSum : (.code yX3_hasRightSum cX3_hasRightSum 4 (some .boolean) : Cond) ∈ wsG := wsG_t (i := 408) rfl rfl
set_option maxRecDepth 20000 in
theorem mb_methodLink_RX3_141 : (.methodLink RX3 141 yX3_countEntries : Cond) ∈ wsG := wsG_t (i := 418) rfl rfl
set_option maxRecDepth 20000 in
theorem mb_instanceMethod_yX3_countEntries : (.instanceMethod yX3_countEntries : Cond) ∈ wsG := wsG_t (i := 420) rfl rfl
theorem mb_selects_yX3_countEntries : (.selects RX3 yX3_countEntries yX3_countEntries : Cond) ∈ wsG := wsG_of (List.mem_append_left _ (List.mem_of_getElem? (i := 11) rfl)) rfl
set_option maxRecDepth 20000 in
theorem mb_code_yX3_countEntries : (.code yX3_countEntries cX3_countEntries 3 (some .int) : Cond) ∈ wsG := wsG_t (i := 421) rfl rfl
set_option maxRecDepth 20000 in
theorem mb_methodLink_RX3_146 : (.methodLink RX3 146 yX1_startOf : Cond) ∈ wsG := wsG_t (i := 409) rfl rfl
set_option maxRecDepth 20000 in
theorem mb_instanceMethod_yX1_startOf : (.instanceMethod yX1_startOf : Cond) ∈ wsG := wsG_t (i := 410) rfl rfl
set_option maxRecDepth 20000 in
theorem mb_selects_yX1_startOf : (.selects RX1 yX1_startOf yX1_startOf : Cond) ∈ wsG := wsG_t (i := 411) rfl rfl
set_option maxRecDepth 20000 in
theorem mb_code_yX1_startOf : (.code yX1_startOf cX1_startOf 2 (some .int) : Cond) ∈ wsG := wsG_t (i := 412) rfl rfl
set_option maxRecDepth 20000 in
theorem mb_methodLink_RX3_149 : (.methodLink RX3 149 yX1_bodyEndOf : Cond) ∈ wsG := wsG_t (i := 413) rfl rfl
set_option maxRecDepth 20000 in
theorem mb_instanceMethod_yX1_bodyEndOf : (.instanceMethod yX1_bodyEndOf : Cond) ∈ wsG := wsG_t (i := 414) rfl rfl
set_option maxRecDepth 20000 in
theorem mb_selects_yX1_bodyEndOf : (.selects RX1 yX1_bodyEndOf yX1_bodyEndOf : Cond) ∈ wsG := wsG_t (i := 415) rfl rfl
set_option maxRecDepth 20000 in
theorem mb_code_yX1_bodyEndOf : (.code yX1_bodyEndOf cX1_bodyEndOf 2 (some .int) : Cond) ∈ wsG := wsG_t (i := 416) rfl rfl
set_option maxRecDepth 20000 in
theorem mb_methodLink_RX3_152 : (.methodLink RX3 152 yX2_hasSum : Cond) ∈ wsG := wsG_t (i := 417) rfl rfl
set_option maxRecDepth 20000 in
theorem mb_methodLink_RX3_156 : (.methodLink RX3 156 yX2_isReadToEnd : Cond) ∈ wsG := wsG_t (i := 427) rfl rfl
set_option maxRecDepth 20000 in
theorem mb_methodLink_RX3_163 : (.methodLink RX3 163 yX2_startReading : Cond) ∈ wsG := wsG_t (i := 426) rfl rfl
theorem mb_methodLink_RX3_169 : (.methodLink RX3 169 yX3_writeBlock : Cond) ∈ wsG := wsG_t (i := 93) rfl rfl
theorem mb_instanceMethod_yX3_writeBlock : (.instanceMethod yX3_writeBlock : Cond) ∈ wsG := wsG_t (i := 95) rfl rfl
theorem mb_selects_yX3_writeBlock : (.selects RX3 yX3_writeBlock yX3_writeBlock : Cond) ∈ wsG := wsG_of (List.mem_append_left _ (List.mem_of_getElem? (i := 1) rfl)) rfl
theorem mb_code_yX3_writeBlock : (.code yX3_writeBlock cX3_writeBlock 5 (some .int) : Cond) ∈ wsG := wsG_t (i := 96) rfl rfl
theorem mb_methodLink_RX3_172 : (.methodLink RX3 172 yX3_writeIndex : Cond) ∈ wsG := wsG_t (i := 128) rfl rfl
theorem mb_instanceMethod_yX3_writeIndex : (.instanceMethod yX3_writeIndex : Cond) ∈ wsG := wsG_t (i := 130) rfl rfl
theorem mb_selects_yX3_writeIndex : (.selects RX3 yX3_writeIndex yX3_writeIndex : Cond) ∈ wsG := wsG_of (List.mem_append_left _ (List.mem_of_getElem? (i := 3) rfl)) rfl
theorem mb_code_yX3_writeIndex : (.code yX3_writeIndex cX3_writeIndex 4 none : Cond) ∈ wsG := wsG_t (i := 131) rfl rfl
theorem mb_methodLink_RX3_175 : (.methodLink RX3 175 Lib.Math.min.name : Cond) ∈ wsG := wsG_t (i := 97) rfl rfl
theorem mb_methodLink_RX3_181 : (.methodLink RX3 181 yX3_fold : Cond) ∈ wsG := wsG_t (i := 100) rfl rfl
theorem mb_static_yX3_fold : (.static yX3_fold : Cond) ∈ wsG := wsG_t (i := 101) rfl rfl
theorem mb_code_yX3_fold : (.code yX3_fold cX3_fold 2 (some .long) : Cond) ∈ wsG := wsG_t (i := 102) rfl rfl
theorem mb_methodLink_RX3_185 : (.methodLink RX3 185 yX2_appendNumber : Cond) ∈ wsG := wsG_t (i := 105) rfl rfl
theorem mb_instanceMethod_yX2_appendNumber : (.instanceMethod yX2_appendNumber : Cond) ∈ wsG := wsG_t (i := 106) rfl rfl
theorem mb_selects_yX2_appendNumber : (.selects RX2 yX2_appendNumber yX2_appendNumber : Cond) ∈ wsG := wsG_t (i := 107) rfl rfl
theorem mb_code_yX2_appendNumber : (.code yX2_appendNumber cX2_appendNumber 6 none : Cond) ∈ wsG := wsG_t (i := 108) rfl rfl
theorem mb_methodLink_RX3_189 : (.methodLink RX3 189 yX2_appendSum : Cond) ∈ wsG := wsG_t (i := 114) rfl rfl
theorem mb_instanceMethod_yX2_appendSum : (.instanceMethod yX2_appendSum : Cond) ∈ wsG := wsG_t (i := 115) rfl rfl
theorem mb_selects_yX2_appendSum : (.selects RX2 yX2_appendSum yX2_appendSum : Cond) ∈ wsG := wsG_t (i := 116) rfl rfl
theorem mb_code_yX2_appendSum : (.code yX2_appendSum cX2_appendSum 4 none : Cond) ∈ wsG := wsG_t (i := 117) rfl rfl
theorem mb_methodLink_RX3_192 : (.methodLink RX3 192 yX2_appendFoot : Cond) ∈ wsG := wsG_t (i := 132) rfl rfl
theorem mb_instanceMethod_yX2_appendFoot : (.instanceMethod yX2_appendFoot : Cond) ∈ wsG := wsG_t (i := 133) rfl rfl
theorem mb_selects_yX2_appendFoot : (.selects RX2 yX2_appendFoot yX2_appendFoot : Cond) ∈ wsG := wsG_t (i := 134) rfl rfl
theorem mb_code_yX2_appendFoot : (.code yX2_appendFoot cX2_appendFoot 3 none : Cond) ∈ wsG := wsG_t (i := 135) rfl rfl
theorem mb_constantLong_RX3_195 : (.constantLong RX3 195 (-2) : Cond) ∈ wsG := wsG_t (i := 103) rfl rfl
theorem mb_constantLong_RX3_197 : (.constantLong RX3 197 (2) : Cond) ∈ wsG := wsG_t (i := 104) rfl rfl
set_option maxRecDepth 20000 in
theorem mb_methodLink_RX4_1 : (.methodLink RX4 1 objectInit : Cond) ∈ wsG := wsG_t (i := 461) rfl rfl
set_option maxRecDepth 20000 in
theorem mb_fieldLink_RX4_9 : (.fieldLink RX4 9 "SortedRunModel" "key" "[I" : Cond) ∈ wsG := wsG_t (i := 486) rfl rfl
set_option maxRecDepth 20000 in
theorem mb_fieldLink_RX4_13 : (.fieldLink RX4 13 "SortedRunModel" "value" "[J" : Cond) ∈ wsG := wsG_t (i := 487) rfl rfl
set_option maxRecDepth 20000 in
theorem mb_fieldLink_RX4_17 : (.fieldLink RX4 17 "SortedRunModel" "table" "[B" : Cond) ∈ wsG := wsG_t (i := 488) rfl rfl
set_option maxRecDepth 20000 in
theorem mb_fieldLink_RX4_21 : (.fieldLink RX4 21 "SortedRunModel" "from" "[I" : Cond) ∈ wsG := wsG_t (i := 489) rfl rfl
set_option maxRecDepth 20000 in
theorem mb_fieldLink_RX4_24 : (.fieldLink RX4 24 "SortedRunModel" "size" "[I" : Cond) ∈ wsG := wsG_t (i := 490) rfl rfl
set_option maxRecDepth 20000 in
theorem mb_fieldLink_RX4_27 : (.fieldLink RX4 27 "SortedRunModel" "first" "[I" : Cond) ∈ wsG := wsG_t (i := 491) rfl rfl
set_option maxRecDepth 20000 in
theorem mb_fieldLink_RX4_30 : (.fieldLink RX4 30 "SortedRunModel" "bKey" "[I" : Cond) ∈ wsG := wsG_t (i := 492) rfl rfl
set_option maxRecDepth 20000 in
theorem mb_fieldLink_RX4_33 : (.fieldLink RX4 33 "SortedRunModel" "bValue" "[J" : Cond) ∈ wsG := wsG_t (i := 493) rfl rfl
set_option maxRecDepth 20000 in
theorem mb_methodLink_RX4_36 : (.methodLink RX4 36 yX4_build : Cond) ∈ wsG := wsG_t (i := 462) rfl rfl
set_option maxRecDepth 20000 in
theorem mb_instanceMethod_yX4_build : (.instanceMethod yX4_build : Cond) ∈ wsG := wsG_t (i := 464) rfl rfl
theorem mb_selects_yX4_build : (.selects RX4 yX4_build yX4_build : Cond) ∈ wsG := wsG_of (List.mem_append_left _ (List.mem_of_getElem? (i := 14) rfl)) rfl
theorem mb_initialized_RX4 : (.initialized RX4 : Cond) ∈ wsG := wsG_t (i := 6) rfl rfl
set_option maxRecDepth 20000 in
theorem mb_code_yX4_build : (.code yX4_build cX4_build 5 none : Cond) ∈ wsG := wsG_t (i := 465) rfl rfl
set_option maxRecDepth 20000 in
theorem mb_fieldLink_RX4_39 : (.fieldLink RX4 39 "SortedRunModel" "thrown" "I" : Cond) ∈ wsG := wsG_t (i := 500) rfl rfl
set_option maxRecDepth 20000 in
theorem mb_constantLong_RX4_43 : (.constantLong RX4 43 (127) : Cond) ∈ wsG := wsG_t (i := 475) rfl rfl
set_option maxRecDepth 20000 in
theorem mb_fieldLink_RX4_45 : (.fieldLink RX4 45 "SortedRunModel" "bytes" "I" : Cond) ∈ wsG := wsG_t (i := 495) rfl rfl
set_option maxRecDepth 20000 in
theorem mb_constantLong_RX4_48 : (.constantLong RX4 48 (128) : Cond) ∈ wsG := wsG_t (i := 476) rfl rfl
set_option maxRecDepth 20000 in
theorem mb_constantLong_RX4_50 : (.constantLong RX4 50 (2) : Cond) ∈ wsG := wsG_t (i := 469) rfl rfl
set_option maxRecDepth 20000 in
theorem mb_constantLong_RX4_52 : (.constantLong RX4 52 (-2) : Cond) ∈ wsG := wsG_t (i := 470) rfl rfl
set_option maxRecDepth 20000 in
theorem mb_constant_RX4_54 : (.constant RX4 54 (-306674912) : Cond) ∈ wsG := wsG_t (i := 485) rfl rfl
set_option maxRecDepth 20000 in
theorem mb_methodLink_RX4_55 : (.methodLink RX4 55 yX4_sum : Cond) ∈ wsG := wsG_t (i := 481) rfl rfl
set_option maxRecDepth 20000 in
theorem mb_instanceMethod_yX4_sum : (.instanceMethod yX4_sum : Cond) ∈ wsG := wsG_t (i := 483) rfl rfl
theorem mb_selects_yX4_sum : (.selects RX4 yX4_sum yX4_sum : Cond) ∈ wsG := wsG_of (List.mem_append_left _ (List.mem_of_getElem? (i := 17) rfl)) rfl
set_option maxRecDepth 20000 in
theorem mb_code_yX4_sum : (.code yX4_sum cX4_sum 7 (some .int) : Cond) ∈ wsG := wsG_t (i := 484) rfl rfl
set_option maxRecDepth 20000 in
theorem mb_fieldLink_RX4_59 : (.fieldLink RX4 59 "SortedRunModel" "waits" "I" : Cond) ∈ wsG := wsG_t (i := 494) rfl rfl
set_option maxRecDepth 20000 in
theorem mb_methodLink_RX4_62 : (.methodLink RX4 62 yX4_fold : Cond) ∈ wsG := wsG_t (i := 466) rfl rfl
set_option maxRecDepth 20000 in
theorem mb_static_yX4_fold : (.static yX4_fold : Cond) ∈ wsG := wsG_t (i := 467) rfl rfl
set_option maxRecDepth 20000 in
theorem mb_code_yX4_fold : (.code yX4_fold cX4_fold 2 (some .long) : Cond) ∈ wsG := wsG_t (i := 468) rfl rfl
set_option maxRecDepth 20000 in
theorem mb_methodLink_RX4_66 : (.methodLink RX4 66 yX4_number : Cond) ∈ wsG := wsG_t (i := 471) rfl rfl
set_option maxRecDepth 20000 in
theorem mb_instanceMethod_yX4_number : (.instanceMethod yX4_number : Cond) ∈ wsG := wsG_t (i := 473) rfl rfl
theorem mb_selects_yX4_number : (.selects RX4 yX4_number yX4_number : Cond) ∈ wsG := wsG_of (List.mem_append_left _ (List.mem_of_getElem? (i := 15) rfl)) rfl
set_option maxRecDepth 20000 in
theorem mb_code_yX4_number : (.code yX4_number cX4_number 5 none : Cond) ∈ wsG := wsG_t (i := 474) rfl rfl
set_option maxRecDepth 20000 in
theorem mb_methodLink_RX4_70 : (.methodLink RX4 70 yX4_seal : Cond) ∈ wsG := wsG_t (i := 477) rfl rfl
set_option maxRecDepth 20000 in
theorem mb_instanceMethod_yX4_seal : (.instanceMethod yX4_seal : Cond) ∈ wsG := wsG_t (i := 479) rfl rfl
theorem mb_selects_yX4_seal : (.selects RX4 yX4_seal yX4_seal : Cond) ∈ wsG := wsG_of (List.mem_append_left _ (List.mem_of_getElem? (i := 16) rfl)) rfl
set_option maxRecDepth 20000 in
theorem mb_code_yX4_seal : (.code yX4_seal cX4_seal 4 none : Cond) ∈ wsG := wsG_t (i := 480) rfl rfl
set_option maxRecDepth 20000 in
theorem mb_fieldLink_RX4_74 : (.fieldLink RX4 74 "SortedRunModel" "isOpen" "Z" : Cond) ∈ wsG := wsG_t (i := 501) rfl rfl
set_option maxRecDepth 20000 in
theorem mb_fieldLink_RX4_78 : (.fieldLink RX4 78 "SortedRunModel" "at" "I" : Cond) ∈ wsG := wsG_t (i := 498) rfl rfl
set_option maxRecDepth 20000 in
theorem mb_fieldLink_RX4_81 : (.fieldLink RX4 81 "SortedRunModel" "end" "I" : Cond) ∈ wsG := wsG_t (i := 499) rfl rfl
set_option maxRecDepth 20000 in
theorem mb_fieldLink_RX4_84 : (.fieldLink RX4 84 "SortedRunModel" "isWrong" "Z" : Cond) ∈ wsG := wsG_t (i := 502) rfl rfl
set_option maxRecDepth 20000 in
theorem mb_methodLink_RX4_87 : (.methodLink RX4 87 yX4_read : Cond) ∈ wsG := wsG_t (i := 583) rfl rfl
set_option maxRecDepth 20000 in
theorem mb_instanceMethod_yX4_read : (.instanceMethod yX4_read : Cond) ∈ wsG := wsG_t (i := 585) rfl rfl
theorem mb_selects_yX4_read : (.selects RX4 yX4_read yX4_read : Cond) ∈ wsG := wsG_of (List.mem_append_left _ (List.mem_of_getElem? (i := 22) rfl)) rfl
set_option maxRecDepth 20000 in
theorem mb_code_yX4_read : (.code yX4_read cX4_read 6 (some .long) : Cond) ∈ wsG := wsG_t (i := 586) rfl rfl
set_option maxRecDepth 20000 in
theorem mb_constantLong_RX4_91 : (.constantLong RX4 91 (4294967295) : Cond) ∈ wsG := wsG_t (i := 587) rfl rfl
set_option maxRecDepth 20000 in
theorem mb_constantLong_RX4_93 : (.constantLong RX4 93 (8) : Cond) ∈ wsG := wsG_t (i := 574) rfl rfl
set_option maxRecDepth 20000 in
theorem mb_methodLink_RX4_95 : (.methodLink RX4 95 yX4_isSealed : Cond) ∈ wsG := wsG_t (i := 575) rfl rfl
set_option maxRecDepth 20000 in
theorem mb_instanceMethod_yX4_isSealed : (.instanceMethod yX4_isSealed : Cond) ∈ wsG := wsG_t (i := 577) rfl rfl
theorem mb_selects_yX4_isSealed : (.selects RX4 yX4_isSealed yX4_isSealed : Cond) ∈ wsG := wsG_of (List.mem_append_left _ (List.mem_of_getElem? (i := 20) rfl)) rfl
set_option maxRecDepth 20000 in
theorem mb_code_yX4_isSealed : (.code yX4_isSealed cX4_isSealed 5 (some .boolean) : Cond) ∈ wsG := wsG_t (i := 578) rfl rfl
set_option maxRecDepth 20000 in
theorem mb_methodLink_RX4_99 : (.methodLink RX4 99 yX4_small : Cond) ∈ wsG := wsG_t (i := 579) rfl rfl
set_option maxRecDepth 20000 in
theorem mb_instanceMethod_yX4_small : (.instanceMethod yX4_small : Cond) ∈ wsG := wsG_t (i := 581) rfl rfl
theorem mb_selects_yX4_small : (.selects RX4 yX4_small yX4_small : Cond) ∈ wsG := wsG_of (List.mem_append_left _ (List.mem_of_getElem? (i := 21) rfl)) rfl
set_option maxRecDepth 20000 in
theorem mb_code_yX4_small : (.code yX4_small cX4_small 3 (some .long) : Cond) ∈ wsG := wsG_t (i := 582) rfl rfl
set_option maxRecDepth 20000 in
theorem mb_fieldLink_RX4_102 : (.fieldLink RX4 102 "SortedRunModel" "blocks" "I" : Cond) ∈ wsG := wsG_t (i := 496) rfl rfl
set_option maxRecDepth 20000 in
theorem mb_constantLong_RX4_105 : (.constantLong RX4 105 (6000) : Cond) ∈ wsG := wsG_t (i := 588) rfl rfl
set_option maxRecDepth 20000 in
theorem mb_methodLink_RX4_107 : (.methodLink RX4 107 yX4_unfold : Cond) ∈ wsG := wsG_t (i := 589) rfl rfl
set_option maxRecDepth 20000 in
theorem mb_static_yX4_unfold : (.static yX4_unfold : Cond) ∈ wsG := wsG_t (i := 590) rfl rfl
set_option maxRecDepth 20000 in
theorem mb_code_yX4_unfold : (.code yX4_unfold cX4_unfold 2 (some .long) : Cond) ∈ wsG := wsG_t (i := 591) rfl rfl
set_option maxRecDepth 20000 in
theorem mb_fieldLink_RX4_110 : (.fieldLink RX4 110 "SortedRunModel" "many" "I" : Cond) ∈ wsG := wsG_t (i := 497) rfl rfl
set_option maxRecDepth 20000 in
theorem mb_methodLink_RX4_113 : (.methodLink RX4 113 yX4_isByte : Cond) ∈ wsG := wsG_t (i := 554) rfl rfl
set_option maxRecDepth 20000 in
theorem mb_instanceMethod_yX4_isByte : (.instanceMethod yX4_isByte : Cond) ∈ wsG := wsG_t (i := 556) rfl rfl
theorem mb_selects_yX4_isByte : (.selects RX4 yX4_isByte yX4_isByte : Cond) ∈ wsG := wsG_of (List.mem_append_left _ (List.mem_of_getElem? (i := 18) rfl)) rfl
set_option maxRecDepth 20000 in
theorem mb_code_yX4_isByte : (.code yX4_isByte cX4_isByte 2 (some .boolean) : Cond) ∈ wsG := wsG_t (i := 557) rfl rfl
set_option maxRecDepth 20000 in
theorem mb_methodLink_RX4_117 : (.methodLink RX4 117 yX4_isIndex : Cond) ∈ wsG := wsG_t (i := 570) rfl rfl
set_option maxRecDepth 20000 in
theorem mb_instanceMethod_yX4_isIndex : (.instanceMethod yX4_isIndex : Cond) ∈ wsG := wsG_t (i := 572) rfl rfl
theorem mb_selects_yX4_isIndex : (.selects RX4 yX4_isIndex yX4_isIndex : Cond) ∈ wsG := wsG_of (List.mem_append_left _ (List.mem_of_getElem? (i := 19) rfl)) rfl
set_option maxRecDepth 20000 in
theorem mb_code_yX4_isIndex : (.code yX4_isIndex cX4_isIndex 14 (some .boolean) : Cond) ∈ wsG := wsG_t (i := 573) rfl rfl
set_option maxRecDepth 20000 in
theorem mb_methodLink_RX4_121 : (.methodLink RX4 121 yX4_isBlock : Cond) ∈ wsG := wsG_t (i := 596) rfl rfl
set_option maxRecDepth 20000 in
theorem mb_instanceMethod_yX4_isBlock : (.instanceMethod yX4_isBlock : Cond) ∈ wsG := wsG_t (i := 598) rfl rfl
theorem mb_selects_yX4_isBlock : (.selects RX4 yX4_isBlock yX4_isBlock : Cond) ∈ wsG := wsG_of (List.mem_append_left _ (List.mem_of_getElem? (i := 23) rfl)) rfl
set_option maxRecDepth 20000 in
theorem mb_code_yX4_isBlock : (.code yX4_isBlock cX4_isBlock 6 (some .boolean) : Cond) ∈ wsG := wsG_t (i := 599) rfl rfl
set_option maxRecDepth 20000 in
theorem mb_methodLink_RX4_124 : (.methodLink RX4 124 yX4_isThere : Cond) ∈ wsG := wsG_t (i := 604) rfl rfl
set_option maxRecDepth 20000 in
theorem mb_instanceMethod_yX4_isThere : (.instanceMethod yX4_isThere : Cond) ∈ wsG := wsG_t (i := 606) rfl rfl
theorem mb_selects_yX4_isThere : (.selects RX4 yX4_isThere yX4_isThere : Cond) ∈ wsG := wsG_of (List.mem_append_left _ (List.mem_of_getElem? (i := 24) rfl)) rfl
set_option maxRecDepth 20000 in
theorem mb_code_yX4_isThere : (.code yX4_isThere cX4_isThere 2 (some .boolean) : Cond) ∈ wsG := wsG_t (i := 607) rfl rfl
theorem mb_methodLink_RL_7 : (.methodLink RL 7 yX3_add : Cond) ∈ wsG := wsG_t (i := 174) rfl rfl
theorem mb_instanceMethod_yX3_add : (.instanceMethod yX3_add : Cond) ∈ wsG := wsG_t (i := 175) rfl rfl
theorem mb_selects_yX3_add : (.selects RX3 yX3_add yX3_add : Cond) ∈ wsG := wsG_t (i := 176) rfl rfl
theorem mb_code_yX3_add : (.code yX3_add cX3_add 4 (some .int) : Cond) ∈ wsG := wsG_t (i := 177) rfl rfl
theorem mb_methodLink_RL_17 : (.methodLink RL 17 yX3_at : Cond) ∈ wsG := wsG_t (i := 267) rfl rfl
theorem mb_instanceMethod_yX3_at : (.instanceMethod yX3_at : Cond) ∈ wsG := wsG_t (i := 268) rfl rfl
theorem mb_selects_yX3_at : (.selects RX3 yX3_at yX3_at : Cond) ∈ wsG := wsG_t (i := 269) rfl rfl
theorem mb_code_yX3_at : (.code yX3_at cX3_at 2 (some .int) : Cond) ∈ wsG := wsG_t (i := 270) rfl rfl
theorem mb_methodLink_RL_23 : (.methodLink RL 23 yX3_damage : Cond) ∈ wsG := wsG_t (i := 295) rfl rfl
theorem mb_instanceMethod_yX3_damage : (.instanceMethod yX3_damage : Cond) ∈ wsG := wsG_t (i := 296) rfl rfl
theorem mb_selects_yX3_damage : (.selects RX3 yX3_damage yX3_damage : Cond) ∈ wsG := wsG_t (i := 297) rfl rfl
theorem mb_code_yX3_damage : (.code yX3_damage cX3_damage 4 (some .int) : Cond) ∈ wsG := wsG_t (i := 298) rfl rfl
theorem mb_methodLink_RL_27 : (.methodLink RL 27 yX3_cut : Cond) ∈ wsG := wsG_t (i := 302) rfl rfl
theorem mb_instanceMethod_yX3_cut : (.instanceMethod yX3_cut : Cond) ∈ wsG := wsG_t (i := 303) rfl rfl
theorem mb_selects_yX3_cut : (.selects RX3 yX3_cut yX3_cut : Cond) ∈ wsG := wsG_t (i := 304) rfl rfl
theorem mb_code_yX3_cut : (.code yX3_cut cX3_cut 2 none : Cond) ∈ wsG := wsG_t (i := 305) rfl rfl
theorem mb_methodLink_RL_31 : (.methodLink RL 31 yX3_open : Cond) ∈ wsG := wsG_t (i := 311) rfl rfl
theorem mb_instanceMethod_yX3_open : (.instanceMethod yX3_open : Cond) ∈ wsG := wsG_t (i := 312) rfl rfl
theorem mb_selects_yX3_open : (.selects RX3 yX3_open yX3_open : Cond) ∈ wsG := wsG_t (i := 313) rfl rfl
theorem mb_code_yX3_open : (.code yX3_open cX3_open 1 (some .int) : Cond) ∈ wsG := wsG_t (i := 314) rfl rfl
set_option maxRecDepth 20000 in
theorem mb_methodLink_RL_37 : (.methodLink RL 37 yX3_get : Cond) ∈ wsG := wsG_t (i := 372) rfl rfl
set_option maxRecDepth 20000 in
theorem mb_instanceMethod_yX3_get : (.instanceMethod yX3_get : Cond) ∈ wsG := wsG_t (i := 373) rfl rfl
set_option maxRecDepth 20000 in
theorem mb_selects_yX3_get : (.selects RX3 yX3_get yX3_get : Cond) ∈ wsG := wsG_t (i := 374) rfl rfl
set_option maxRecDepth 20000 in
theorem mb_code_yX3_get : (.code yX3_get cX3_get 5 (some .long) : Cond) ∈ wsG := wsG_t (i := 375) rfl rfl
set_option maxRecDepth 20000 in
theorem mb_methodLink_RL_43 : (.methodLink RL 43 yX3_entries : Cond) ∈ wsG := wsG_t (i := 439) rfl rfl
set_option maxRecDepth 20000 in
theorem mb_instanceMethod_yX3_entries : (.instanceMethod yX3_entries : Cond) ∈ wsG := wsG_t (i := 440) rfl rfl
set_option maxRecDepth 20000 in
theorem mb_selects_yX3_entries : (.selects RX3 yX3_entries yX3_entries : Cond) ∈ wsG := wsG_t (i := 441) rfl rfl
set_option maxRecDepth 20000 in
theorem mb_code_yX3_entries : (.code yX3_entries cX3_entries 2 (some .int) : Cond) ∈ wsG := wsG_t (i := 442) rfl rfl
set_option maxRecDepth 20000 in
theorem mb_methodLink_RL_46 : (.methodLink RL 46 yX3_key : Cond) ∈ wsG := wsG_t (i := 451) rfl rfl
set_option maxRecDepth 20000 in
theorem mb_instanceMethod_yX3_key : (.instanceMethod yX3_key : Cond) ∈ wsG := wsG_t (i := 452) rfl rfl
set_option maxRecDepth 20000 in
theorem mb_selects_yX3_key : (.selects RX3 yX3_key yX3_key : Cond) ∈ wsG := wsG_t (i := 453) rfl rfl
set_option maxRecDepth 20000 in
theorem mb_code_yX3_key : (.code yX3_key cX3_key 5 (some .int) : Cond) ∈ wsG := wsG_t (i := 454) rfl rfl
theorem mb_classLink_RL_8 : (.classLink RL 8 RX3 : Cond) ∈ wsG := wsG_t (i := 15) rfl rfl
theorem mb_instantiable_RX3_8 : (.instantiable RX3 8 : Cond) ∈ wsG := wsG_t (i := 16) rfl rfl
theorem mb_code_yX3_init : (.code yX3_init cX3_init 1 none : Cond) ∈ wsG := wsG_t (i := 19) rfl rfl
theorem mb_instanceMethod_yX3_init : (.instanceMethod yX3_init : Cond) ∈ wsG := wsG_t (i := 18) rfl rfl
theorem mb_methodLink_RL_49 : (.methodLink RL 49 yX3_init : Cond) ∈ wsG := wsG_t (i := 17) rfl rfl
set_option maxRecDepth 20000 in
theorem mb_classLink_RL_50 : (.classLink RL 50 RX4 : Cond) ∈ wsG := wsG_t (i := 456) rfl rfl
set_option maxRecDepth 20000 in
theorem mb_instantiable_RX4_17 : (.instantiable RX4 17 : Cond) ∈ wsG := wsG_t (i := 457) rfl rfl
set_option maxRecDepth 20000 in
theorem mb_code_yX4_init : (.code yX4_init cX4_init 1 none : Cond) ∈ wsG := wsG_t (i := 460) rfl rfl
set_option maxRecDepth 20000 in
theorem mb_instanceMethod_yX4_init : (.instanceMethod yX4_init : Cond) ∈ wsG := wsG_t (i := 459) rfl rfl
set_option maxRecDepth 20000 in
theorem mb_methodLink_RL_52 : (.methodLink RL 52 yX4_init : Cond) ∈ wsG := wsG_t (i := 458) rfl rfl
set_option maxRecDepth 20000 in
theorem mb_constantLong_RL_53 : (.constantLong RL 53 (4294967295) : Cond) ∈ wsG := wsG_t (i := 616) rfl rfl
theorem mb_methodLink_RL_55 : (.methodLink RL 55 yL_add : Cond) ∈ wsG := wsG_t (i := 169) rfl rfl
theorem mb_static_yL_add : (.static yL_add : Cond) ∈ wsG := wsG_t (i := 170) rfl rfl
theorem mb_initialized_RL : (.initialized RL : Cond) ∈ wsG := wsG_t (i := 0) rfl rfl
set_option maxRecDepth 20000 in
theorem mb_methodLink_RL_60 : (.methodLink RL 60 yX4_add : Cond) ∈ wsG := wsG_t (i := 542) rfl rfl
set_option maxRecDepth 20000 in
theorem mb_instanceMethod_yX4_add : (.instanceMethod yX4_add : Cond) ∈ wsG := wsG_t (i := 543) rfl rfl
set_option maxRecDepth 20000 in
theorem mb_selects_yX4_add : (.selects RX4 yX4_add yX4_add : Cond) ∈ wsG := wsG_t (i := 544) rfl rfl
set_option maxRecDepth 20000 in
theorem mb_code_yX4_add : (.code yX4_add cX4_add 4 (some .int) : Cond) ∈ wsG := wsG_t (i := 545) rfl rfl
set_option maxRecDepth 20000 in
theorem mb_methodLink_RL_61 : (.methodLink RL 61 yX4_thrown : Cond) ∈ wsG := wsG_t (i := 538) rfl rfl
set_option maxRecDepth 20000 in
theorem mb_instanceMethod_yX4_thrown : (.instanceMethod yX4_thrown : Cond) ∈ wsG := wsG_t (i := 539) rfl rfl
set_option maxRecDepth 20000 in
theorem mb_selects_yX4_thrown : (.selects RX4 yX4_thrown yX4_thrown : Cond) ∈ wsG := wsG_t (i := 540) rfl rfl
set_option maxRecDepth 20000 in
theorem mb_code_yX4_thrown : (.code yX4_thrown cX4_thrown 1 (some .int) : Cond) ∈ wsG := wsG_t (i := 541) rfl rfl
theorem mb_methodLink_RL_64 : (.methodLink RL 64 yX3_write : Cond) ∈ wsG := wsG_t (i := 161) rfl rfl
theorem mb_instanceMethod_yX3_write : (.instanceMethod yX3_write : Cond) ∈ wsG := wsG_t (i := 162) rfl rfl
theorem mb_selects_yX3_write : (.selects RX3 yX3_write yX3_write : Cond) ∈ wsG := wsG_t (i := 163) rfl rfl
theorem mb_code_yX3_write : (.code yX3_write cX3_write 1 (some .int) : Cond) ∈ wsG := wsG_t (i := 164) rfl rfl
set_option maxRecDepth 20000 in
theorem mb_methodLink_RL_67 : (.methodLink RL 67 yX4_write : Cond) ∈ wsG := wsG_t (i := 546) rfl rfl
set_option maxRecDepth 20000 in
theorem mb_instanceMethod_yX4_write : (.instanceMethod yX4_write : Cond) ∈ wsG := wsG_t (i := 547) rfl rfl
set_option maxRecDepth 20000 in
theorem mb_selects_yX4_write : (.selects RX4 yX4_write yX4_write : Cond) ∈ wsG := wsG_t (i := 548) rfl rfl
set_option maxRecDepth 20000 in
theorem mb_code_yX4_write : (.code yX4_write cX4_write 1 (some .int) : Cond) ∈ wsG := wsG_t (i := 549) rfl rfl
theorem mb_methodLink_RL_68 : (.methodLink RL 68 yL_at : Cond) ∈ wsG := wsG_t (i := 263) rfl rfl
theorem mb_static_yL_at : (.static yL_at : Cond) ∈ wsG := wsG_t (i := 264) rfl rfl
set_option maxRecDepth 20000 in
theorem mb_methodLink_RL_71 : (.methodLink RL 71 yX4_at : Cond) ∈ wsG := wsG_t (i := 550) rfl rfl
set_option maxRecDepth 20000 in
theorem mb_instanceMethod_yX4_at : (.instanceMethod yX4_at : Cond) ∈ wsG := wsG_t (i := 551) rfl rfl
set_option maxRecDepth 20000 in
theorem mb_selects_yX4_at : (.selects RX4 yX4_at yX4_at : Cond) ∈ wsG := wsG_t (i := 552) rfl rfl
set_option maxRecDepth 20000 in
theorem mb_code_yX4_at : (.code yX4_at cX4_at 2 (some .int) : Cond) ∈ wsG := wsG_t (i := 553) rfl rfl
theorem mb_methodLink_RL_72 : (.methodLink RL 72 yL_damage : Cond) ∈ wsG := wsG_t (i := 292) rfl rfl
theorem mb_static_yL_damage : (.static yL_damage : Cond) ∈ wsG := wsG_t (i := 293) rfl rfl
set_option maxRecDepth 20000 in
theorem mb_methodLink_RL_75 : (.methodLink RL 75 yX4_damage : Cond) ∈ wsG := wsG_t (i := 558) rfl rfl
set_option maxRecDepth 20000 in
theorem mb_instanceMethod_yX4_damage : (.instanceMethod yX4_damage : Cond) ∈ wsG := wsG_t (i := 559) rfl rfl
set_option maxRecDepth 20000 in
theorem mb_selects_yX4_damage : (.selects RX4 yX4_damage yX4_damage : Cond) ∈ wsG := wsG_t (i := 560) rfl rfl
set_option maxRecDepth 20000 in
theorem mb_code_yX4_damage : (.code yX4_damage cX4_damage 4 (some .int) : Cond) ∈ wsG := wsG_t (i := 561) rfl rfl
theorem mb_methodLink_RL_76 : (.methodLink RL 76 yL_cut : Cond) ∈ wsG := wsG_t (i := 299) rfl rfl
theorem mb_static_yL_cut : (.static yL_cut : Cond) ∈ wsG := wsG_t (i := 300) rfl rfl
set_option maxRecDepth 20000 in
theorem mb_methodLink_RL_79 : (.methodLink RL 79 yX4_cut : Cond) ∈ wsG := wsG_t (i := 562) rfl rfl
set_option maxRecDepth 20000 in
theorem mb_instanceMethod_yX4_cut : (.instanceMethod yX4_cut : Cond) ∈ wsG := wsG_t (i := 563) rfl rfl
set_option maxRecDepth 20000 in
theorem mb_selects_yX4_cut : (.selects RX4 yX4_cut yX4_cut : Cond) ∈ wsG := wsG_t (i := 564) rfl rfl
set_option maxRecDepth 20000 in
theorem mb_code_yX4_cut : (.code yX4_cut cX4_cut 2 none : Cond) ∈ wsG := wsG_t (i := 565) rfl rfl
theorem mb_methodLink_RL_80 : (.methodLink RL 80 yL_open : Cond) ∈ wsG := wsG_t (i := 307) rfl rfl
theorem mb_static_yL_open : (.static yL_open : Cond) ∈ wsG := wsG_t (i := 308) rfl rfl
set_option maxRecDepth 20000 in
theorem mb_methodLink_RL_83 : (.methodLink RL 83 yX4_open : Cond) ∈ wsG := wsG_t (i := 566) rfl rfl
set_option maxRecDepth 20000 in
theorem mb_instanceMethod_yX4_open : (.instanceMethod yX4_open : Cond) ∈ wsG := wsG_t (i := 567) rfl rfl
set_option maxRecDepth 20000 in
theorem mb_selects_yX4_open : (.selects RX4 yX4_open yX4_open : Cond) ∈ wsG := wsG_t (i := 568) rfl rfl
set_option maxRecDepth 20000 in
theorem mb_code_yX4_open : (.code yX4_open cX4_open 1 (some .int) : Cond) ∈ wsG := wsG_t (i := 569) rfl rfl
set_option maxRecDepth 20000 in
theorem mb_methodLink_RL_84 : (.methodLink RL 84 yL_get : Cond) ∈ wsG := wsG_t (i := 368) rfl rfl
set_option maxRecDepth 20000 in
theorem mb_static_yL_get : (.static yL_get : Cond) ∈ wsG := wsG_t (i := 369) rfl rfl
set_option maxRecDepth 20000 in
theorem mb_methodLink_RL_86 : (.methodLink RL 86 yX4_get : Cond) ∈ wsG := wsG_t (i := 592) rfl rfl
set_option maxRecDepth 20000 in
theorem mb_instanceMethod_yX4_get : (.instanceMethod yX4_get : Cond) ∈ wsG := wsG_t (i := 593) rfl rfl
set_option maxRecDepth 20000 in
theorem mb_selects_yX4_get : (.selects RX4 yX4_get yX4_get : Cond) ∈ wsG := wsG_t (i := 594) rfl rfl
set_option maxRecDepth 20000 in
theorem mb_code_yX4_get : (.code yX4_get cX4_get 4 (some .long) : Cond) ∈ wsG := wsG_t (i := 595) rfl rfl
set_option maxRecDepth 20000 in
theorem mb_methodLink_RL_87 : (.methodLink RL 87 yL_entries : Cond) ∈ wsG := wsG_t (i := 436) rfl rfl
set_option maxRecDepth 20000 in
theorem mb_static_yL_entries : (.static yL_entries : Cond) ∈ wsG := wsG_t (i := 437) rfl rfl
set_option maxRecDepth 20000 in
theorem mb_methodLink_RL_89 : (.methodLink RL 89 yX4_entries : Cond) ∈ wsG := wsG_t (i := 600) rfl rfl
set_option maxRecDepth 20000 in
theorem mb_instanceMethod_yX4_entries : (.instanceMethod yX4_entries : Cond) ∈ wsG := wsG_t (i := 601) rfl rfl
set_option maxRecDepth 20000 in
theorem mb_selects_yX4_entries : (.selects RX4 yX4_entries yX4_entries : Cond) ∈ wsG := wsG_t (i := 602) rfl rfl
set_option maxRecDepth 20000 in
theorem mb_code_yX4_entries : (.code yX4_entries cX4_entries 2 (some .int) : Cond) ∈ wsG := wsG_t (i := 603) rfl rfl
set_option maxRecDepth 20000 in
theorem mb_methodLink_RL_90 : (.methodLink RL 90 yL_key : Cond) ∈ wsG := wsG_t (i := 448) rfl rfl
set_option maxRecDepth 20000 in
theorem mb_static_yL_key : (.static yL_key : Cond) ∈ wsG := wsG_t (i := 449) rfl rfl
set_option maxRecDepth 20000 in
theorem mb_methodLink_RL_92 : (.methodLink RL 92 yX4_key : Cond) ∈ wsG := wsG_t (i := 608) rfl rfl
set_option maxRecDepth 20000 in
theorem mb_instanceMethod_yX4_key : (.instanceMethod yX4_key : Cond) ∈ wsG := wsG_t (i := 609) rfl rfl
set_option maxRecDepth 20000 in
theorem mb_selects_yX4_key : (.selects RX4 yX4_key yX4_key : Cond) ∈ wsG := wsG_t (i := 610) rfl rfl
set_option maxRecDepth 20000 in
theorem mb_code_yX4_key : (.code yX4_key cX4_key 3 (some .int) : Cond) ∈ wsG := wsG_t (i := 611) rfl rfl
theorem mb_methodLink_RL_93 : (.methodLink RL 93 yX3_size : Cond) ∈ wsG := wsG_t (i := 165) rfl rfl
theorem mb_instanceMethod_yX3_size : (.instanceMethod yX3_size : Cond) ∈ wsG := wsG_t (i := 166) rfl rfl
theorem mb_selects_yX3_size : (.selects RX3 yX3_size yX3_size : Cond) ∈ wsG := wsG_t (i := 167) rfl rfl
theorem mb_code_yX3_size : (.code yX3_size cX3_size 1 (some .int) : Cond) ∈ wsG := wsG_t (i := 168) rfl rfl
set_option maxRecDepth 20000 in
theorem mb_methodLink_RL_96 : (.methodLink RL 96 yX4_size : Cond) ∈ wsG := wsG_t (i := 612) rfl rfl
set_option maxRecDepth 20000 in
theorem mb_instanceMethod_yX4_size : (.instanceMethod yX4_size : Cond) ∈ wsG := wsG_t (i := 613) rfl rfl
set_option maxRecDepth 20000 in
theorem mb_selects_yX4_size : (.selects RX4 yX4_size yX4_size : Cond) ∈ wsG := wsG_t (i := 614) rfl rfl
set_option maxRecDepth 20000 in
theorem mb_code_yX4_size : (.code yX4_size cX4_size 1 (some .int) : Cond) ∈ wsG := wsG_t (i := 615) rfl rfl
theorem mb_instanceMethod_objectInit : (.instanceMethod objectInit : Cond) ∈ wsG := wsG_t (i := 21) rfl rfl
theorem mb_code_objectInit : (.code objectInit ⟨#[0xb1]⟩ 1 none : Cond) ∈ wsG := wsG_t (i := 22) rfl rfl
theorem mb_min_static : (.static Lib.Math.min.name : Cond) ∈ wsG := wsG_t (i := 98) rfl rfl
theorem mb_min_ini : (.initialized "java/lang/Math" : Cond) ∈ wsG := wsG_t (i := 5) rfl rfl
theorem mb_min_code : (.code Lib.Math.min.name Lib.Math.min.code 2 (some .int) : Cond) ∈ wsG := wsG_t (i := 99) rfl rfl
abbrev wsX0_init : List Cond := .code yX0_init cX0_init 1 none :: wsG
abbrev wsX0_readNext : List Cond := .code yX0_readNext cX0_readNext 4 none :: wsG
abbrev wsX1_init : List Cond := .code yX1_init cX1_init 1 none :: wsG
abbrev wsX1_startOf : List Cond := .code yX1_startOf cX1_startOf 2 (some .int) :: wsG
abbrev wsX1_bodyEndOf : List Cond := .code yX1_bodyEndOf cX1_bodyEndOf 2 (some .int) :: wsG
abbrev wsX1_lastBlockNotAbove : List Cond := .code yX1_lastBlockNotAbove cX1_lastBlockNotAbove 3 (some .int) :: wsG
abbrev wsX1_readFrom : List Cond := .code yX1_readFrom cX1_readFrom 4 (some .boolean) :: wsG
abbrev wsX1_readBlocks : List Cond := .code yX1_readBlocks cX1_readBlocks 12 (some .boolean) :: wsG
abbrev wsX1_fitsIndex : List Cond := .code yX1_fitsIndex cX1_fitsIndex 3 (some .boolean) :: wsG
abbrev wsX2_init : List Cond := .code yX2_init cX2_init 1 none :: wsG
abbrev wsX2_byteAt : List Cond := .code yX2_byteAt cX2_byteAt 2 (some .int) :: wsG
abbrev wsX2_append : List Cond := .code yX2_append cX2_append 2 none :: wsG
abbrev wsX2_appendNumber : List Cond := .code yX2_appendNumber cX2_appendNumber 6 none :: wsG
abbrev wsX2_appendSum : List Cond := .code yX2_appendSum cX2_appendSum 4 none :: wsG
abbrev wsX2_appendFoot : List Cond := .code yX2_appendFoot cX2_appendFoot 3 none :: wsG
abbrev wsX2_foot : List Cond := .code yX2_foot cX2_foot 4 (some .long) :: wsG
abbrev wsX2_hasSum : List Cond := .code yX2_hasSum cX2_hasSum 5 (some .boolean) :: wsG
abbrev wsX2_sumOf : List Cond := .code yX2_sumOf cX2_sumOf 5 (some .int) :: wsG
abbrev wsX2_startReading : List Cond := .code yX2_startReading cX2_startReading 3 none :: wsG
abbrev wsX2_isReadToEnd : List Cond := .code yX2_isReadToEnd cX2_isReadToEnd 1 (some .boolean) :: wsG
abbrev wsX2_takeNumber : List Cond := .code yX2_takeNumber cX2_takeNumber 5 (some .long) :: wsG
abbrev wsX3_init : List Cond := .code yX3_init cX3_init 1 none :: wsG
abbrev wsX3_add : List Cond := .code yX3_add cX3_add 4 (some .int) :: wsG
abbrev wsX3_write : List Cond := .code yX3_write cX3_write 1 (some .int) :: wsG
abbrev wsX3_at : List Cond := .code yX3_at cX3_at 2 (some .int) :: wsG
abbrev wsX3_damage : List Cond := .code yX3_damage cX3_damage 4 (some .int) :: wsG
abbrev wsX3_cut : List Cond := .code yX3_cut cX3_cut 2 none :: wsG
abbrev wsX3_open : List Cond := .code yX3_open cX3_open 1 (some .int) :: wsG
abbrev wsX3_get : List Cond := .code yX3_get cX3_get 5 (some .long) :: wsG
abbrev wsX3_entries : List Cond := .code yX3_entries cX3_entries 2 (some .int) :: wsG
abbrev wsX3_key : List Cond := .code yX3_key cX3_key 5 (some .int) :: wsG
abbrev wsX3_size : List Cond := .code yX3_size cX3_size 1 (some .int) :: wsG
abbrev wsX3_requireByte : List Cond := .code yX3_requireByte cX3_requireByte 2 none :: wsG
abbrev wsX3_requireOpen : List Cond := .code yX3_requireOpen cX3_requireOpen 1 none :: wsG
abbrev wsX3_requireBlock : List Cond := .code yX3_requireBlock cX3_requireBlock 2 none :: wsG
abbrev wsX3_countRightEntries : List Cond := .code yX3_countRightEntries cX3_countRightEntries 3 (some .int) :: wsG
abbrev wsX3_hasRightSum : List Cond := .code yX3_hasRightSum cX3_hasRightSum 4 (some .boolean) :: wsG
abbrev wsX3_countEntries : List Cond := .code yX3_countEntries cX3_countEntries 3 (some .int) :: wsG
abbrev wsX3_startReading : List Cond := .code yX3_startReading cX3_startReading 2 none :: wsG
abbrev wsX3_writeTable : List Cond := .code yX3_writeTable cX3_writeTable 3 none :: wsG
abbrev wsX3_writeBlock : List Cond := .code yX3_writeBlock cX3_writeBlock 5 (some .int) :: wsG
abbrev wsX3_writeIndex : List Cond := .code yX3_writeIndex cX3_writeIndex 4 none :: wsG
abbrev wsX3_fold : List Cond := .code yX3_fold cX3_fold 2 (some .long) :: wsG
abbrev wsX3_unfold : List Cond := .code yX3_unfold cX3_unfold 4 (some .long) :: wsG
abbrev wsX4_init : List Cond := .code yX4_init cX4_init 1 none :: wsG
abbrev wsX4_thrown : List Cond := .code yX4_thrown cX4_thrown 1 (some .int) :: wsG
abbrev wsX4_number : List Cond := .code yX4_number cX4_number 5 none :: wsG
abbrev wsX4_fold : List Cond := .code yX4_fold cX4_fold 2 (some .long) :: wsG
abbrev wsX4_unfold : List Cond := .code yX4_unfold cX4_unfold 2 (some .long) :: wsG
abbrev wsX4_sum : List Cond := .code yX4_sum cX4_sum 7 (some .int) :: wsG
abbrev wsX4_seal : List Cond := .code yX4_seal cX4_seal 4 none :: wsG
abbrev wsX4_isSealed : List Cond := .code yX4_isSealed cX4_isSealed 5 (some .boolean) :: wsG
abbrev wsX4_build : List Cond := .code yX4_build cX4_build 5 none :: wsG
abbrev wsX4_read : List Cond := .code yX4_read cX4_read 6 (some .long) :: wsG
abbrev wsX4_small : List Cond := .code yX4_small cX4_small 3 (some .long) :: wsG
abbrev wsX4_isIndex : List Cond := .code yX4_isIndex cX4_isIndex 14 (some .boolean) :: wsG
abbrev wsX4_isBlock : List Cond := .code yX4_isBlock cX4_isBlock 6 (some .boolean) :: wsG
abbrev wsX4_add : List Cond := .code yX4_add cX4_add 4 (some .int) :: wsG
abbrev wsX4_write : List Cond := .code yX4_write cX4_write 1 (some .int) :: wsG
abbrev wsX4_isByte : List Cond := .code yX4_isByte cX4_isByte 2 (some .boolean) :: wsG
abbrev wsX4_at : List Cond := .code yX4_at cX4_at 2 (some .int) :: wsG
abbrev wsX4_damage : List Cond := .code yX4_damage cX4_damage 4 (some .int) :: wsG
abbrev wsX4_cut : List Cond := .code yX4_cut cX4_cut 2 none :: wsG
abbrev wsX4_open : List Cond := .code yX4_open cX4_open 1 (some .int) :: wsG
abbrev wsX4_get : List Cond := .code yX4_get cX4_get 4 (some .long) :: wsG
abbrev wsX4_isThere : List Cond := .code yX4_isThere cX4_isThere 2 (some .boolean) :: wsG
abbrev wsX4_entries : List Cond := .code yX4_entries cX4_entries 2 (some .int) :: wsG
abbrev wsX4_key : List Cond := .code yX4_key cX4_key 3 (some .int) :: wsG
abbrev wsX4_size : List Cond := .code yX4_size cX4_size 1 (some .int) :: wsG
/-! the class's world: the cells ad 0 .. ad 9; ca: the arrays' classes -/
abbrev xw (ad : Nat → Nat) (ca : Nat → ClassId) (kf : Nat → Int32) (vf : Nat → Int64) (bf : Nat → Int32) (w op ln nx en ok : Int32) (tf : Nat → Int32) (nb : Int32) (ef ff : Nat → Int32) (fi ek : Int32) (ev : Int64) : va_W :=
  [(ad 0, .inr (3, [.ref (ad 1), .ref (ad 2), .ref (ad 3), .ref (ad 4), .ref (ad 6), .ref (ad 9), .int w, .int op])), (ad 1, .inl (ca 0, 300, .inl kf)), (ad 2, .inl (ca 1, 300, .inr (.inl vf))), (ad 3, .inl (ca 3, 38, .inl bf)),
   (ad 4, .inr (2, [.ref (ad 5), .int ln, .int nx, .int en, .int ok])), (ad 5, .inl (ca 2, 4889, .inl tf)), (ad 6, .inr (1, [.ref (ad 7), .ref (ad 8), .int nb])), (ad 7, .inl (ca 4, 2444, .inl ef)), (ad 8, .inl (ca 5, 2444, .inl ff)),
   (ad 9, .inr (0, [.int fi, .int ek, .long ev]))]
abbrev xt (ca : Nat → ClassId) : List (ClassId × FieldType) := [(ca 0, .int), (ca 1, .long), (ca 2, .byte), (ca 3, .int), (ca 4, .int), (ca 5, .int), (ca 6, .int), (ca 7, .long)]
