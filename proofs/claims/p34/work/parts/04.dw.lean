theorem mm_0 : Cond.selects RX8 yX8_tellsPeople yX8_tellsPeople ∈ zGW := List.mem_filter.mpr ⟨List.mem_of_getElem? (i := 0) (by decide +kernel), by decide +kernel⟩
theorem mm_1 : Cond.selects RX8 yX8_isPerson yX8_isPerson ∈ zGW := List.mem_filter.mpr ⟨List.mem_of_getElem? (i := 1) (by decide +kernel), by decide +kernel⟩
theorem mm_2 : Cond.selects RX8 yX8_fillColumn yX8_fillColumn ∈ zGW := List.mem_filter.mpr ⟨List.mem_of_getElem? (i := 2) (by decide +kernel), by decide +kernel⟩
theorem mm_3 : Cond.selects RX8 yX8_isLine yX8_isLine ∈ zGW := List.mem_filter.mpr ⟨List.mem_of_getElem? (i := 3) (by decide +kernel), by decide +kernel⟩
theorem mm_4 : Cond.selects RX8 yX8_isBook yX8_isBook ∈ zGW := List.mem_filter.mpr ⟨List.mem_of_getElem? (i := 4) (by decide +kernel), by decide +kernel⟩
theorem mm_5 : Cond.selects RX8 yX8_isLive yX8_isLive ∈ zGW := List.mem_filter.mpr ⟨List.mem_of_getElem? (i := 5) (by decide +kernel), by decide +kernel⟩
theorem mm_6 : Cond.selects RX8 yX8_fit yX8_fit ∈ zGW := List.mem_filter.mpr ⟨List.mem_of_getElem? (i := 6) (by decide +kernel), by decide +kernel⟩
theorem mm_7 : Cond.selects RX8 yX8_openFor yX8_openFor ∈ zGW := List.mem_filter.mpr ⟨List.mem_of_getElem? (i := 7) (by decide +kernel), by decide +kernel⟩
theorem mm_8 : Cond.selects RX8 yX8_shownBooks yX8_shownBooks ∈ zGW := List.mem_filter.mpr ⟨List.mem_of_getElem? (i := 8) (by decide +kernel), by decide +kernel⟩
theorem mm_9 : Cond.selects RX8 yX8_layOut yX8_layOut ∈ zGW := List.mem_filter.mpr ⟨List.mem_of_getElem? (i := 9) (by decide +kernel), by decide +kernel⟩
theorem mm_10 : Cond.selects RX8 yX8_fitLaid yX8_fitLaid ∈ zGW := List.mem_filter.mpr ⟨List.mem_of_getElem? (i := 10) (by decide +kernel), by decide +kernel⟩
theorem mm_11 : Cond.selects RX8 yX8_fitAll yX8_fitAll ∈ zGW := List.mem_filter.mpr ⟨List.mem_of_getElem? (i := 11) (by decide +kernel), by decide +kernel⟩
theorem mm_12 : Cond.selects RX8 yX8_fitAlone yX8_fitAlone ∈ zGW := List.mem_filter.mpr ⟨List.mem_of_getElem? (i := 12) (by decide +kernel), by decide +kernel⟩
theorem mm_13 : Cond.selects RX6 yX6_giveTo yX6_giveTo ∈ zGW := List.mem_filter.mpr ⟨List.mem_of_getElem? (i := 13) (by decide +kernel), by decide +kernel⟩
theorem mm_14 : Cond.selects RX6 yX6_weighSet yX6_weighSet ∈ zGW := List.mem_filter.mpr ⟨List.mem_of_getElem? (i := 14) (by decide +kernel), by decide +kernel⟩
theorem mm_15 : Cond.selects RX6 yX6_findSome yX6_findSome ∈ zGW := List.mem_filter.mpr ⟨List.mem_of_getElem? (i := 15) (by decide +kernel), by decide +kernel⟩
theorem mm_16 : Cond.selects RX8 yX8_safeLines yX8_safeLines ∈ zGW := List.mem_filter.mpr ⟨List.mem_of_getElem? (i := 16) (by decide +kernel), by decide +kernel⟩
theorem mm_17 : Cond.selects RX3 yX3_climb yX3_climb ∈ zGW := List.mem_filter.mpr ⟨List.mem_of_getElem? (i := 17) (by decide +kernel), by decide +kernel⟩
theorem mm_18 : Cond.selects RX8 yX8_judgeAll yX8_judgeAll ∈ zGW := List.mem_filter.mpr ⟨List.mem_of_getElem? (i := 18) (by decide +kernel), by decide +kernel⟩
theorem mm_19 : Cond.selects RX8 yX8_spell yX8_spell ∈ zGW := List.mem_filter.mpr ⟨List.mem_of_getElem? (i := 19) (by decide +kernel), by decide +kernel⟩
theorem mm_20 : Cond.selects RX4 yX4_start yX4_start ∈ zGW := List.mem_filter.mpr ⟨List.mem_of_getElem? (i := 20) (by decide +kernel), by decide +kernel⟩
theorem mm_21 : Cond.selects RX4 yX4_anyOf yX4_anyOf ∈ zGW := List.mem_filter.mpr ⟨List.mem_of_getElem? (i := 21) (by decide +kernel), by decide +kernel⟩
theorem mm_22 : Cond.selects RX4 yX4_allOf yX4_allOf ∈ zGW := List.mem_filter.mpr ⟨List.mem_of_getElem? (i := 22) (by decide +kernel), by decide +kernel⟩
theorem mm_23 : Cond.selects RX4 yX4_piece yX4_piece ∈ zGW := List.mem_filter.mpr ⟨List.mem_of_getElem? (i := 23) (by decide +kernel), by decide +kernel⟩
theorem mm_24 : Cond.selects RX4 yX4_next yX4_next ∈ zGW := List.mem_filter.mpr ⟨List.mem_of_getElem? (i := 24) (by decide +kernel), by decide +kernel⟩
theorem mm_25 : Cond.selects RX4 yX4_opens yX4_opens ∈ zGW := List.mem_filter.mpr ⟨List.mem_of_getElem? (i := 25) (by decide +kernel), by decide +kernel⟩
theorem mm_26 : Cond.selects RX4 yX4_fail yX4_fail ∈ zGW := List.mem_filter.mpr ⟨List.mem_of_getElem? (i := 26) (by decide +kernel), by decide +kernel⟩
theorem mm_27 : Cond.selects RX4 yX4_expect yX4_expect ∈ zGW := List.mem_filter.mpr ⟨List.mem_of_getElem? (i := 27) (by decide +kernel), by decide +kernel⟩
theorem mm_28 : Cond.selects RX4 yX4_sum yX4_sum ∈ zGW := List.mem_filter.mpr ⟨List.mem_of_getElem? (i := 28) (by decide +kernel), by decide +kernel⟩
theorem mm_29 : Cond.selects RX4 yX4_product yX4_product ∈ zGW := List.mem_filter.mpr ⟨List.mem_of_getElem? (i := 29) (by decide +kernel), by decide +kernel⟩
theorem mm_30 : Cond.selects RX4 yX4_factor yX4_factor ∈ zGW := List.mem_filter.mpr ⟨List.mem_of_getElem? (i := 30) (by decide +kernel), by decide +kernel⟩
theorem mm_31 : Cond.selects RX4 yX4_numeral yX4_numeral ∈ zGW := List.mem_filter.mpr ⟨List.mem_of_getElem? (i := 31) (by decide +kernel), by decide +kernel⟩
theorem mm_32 : Cond.selects RX8 yX8_fewestGossips yX8_fewestGossips ∈ zGW := List.mem_filter.mpr ⟨List.mem_of_getElem? (i := 32) (by decide +kernel), by decide +kernel⟩
theorem mm_33 : Cond.selects RX8 yX8_mayLaid yX8_mayLaid ∈ zGW := List.mem_filter.mpr ⟨List.mem_of_getElem? (i := 33) (by decide +kernel), by decide +kernel⟩
theorem mm_34 : Cond.selects RX8 yX8_someAlike yX8_someAlike ∈ zGW := List.mem_filter.mpr ⟨List.mem_of_getElem? (i := 34) (by decide +kernel), by decide +kernel⟩
theorem mm_35 : Cond.selects RX0 yX0_makeRoom yX0_makeRoom ∈ zGW := List.mem_filter.mpr ⟨List.mem_of_getElem? (i := 35) (by decide +kernel), by decide +kernel⟩
theorem mm_36 : Cond.selects RX0 yX0_addSplit yX0_addSplit ∈ zGW := List.mem_filter.mpr ⟨List.mem_of_getElem? (i := 36) (by decide +kernel), by decide +kernel⟩
theorem mm_37 : Cond.selects RX0 yX0_areEnough yX0_areEnough ∈ zGW := List.mem_filter.mpr ⟨List.mem_of_getElem? (i := 37) (by decide +kernel), by decide +kernel⟩
theorem mm_38 : Cond.selects RX0 yX0_atLeast yX0_atLeast ∈ zGW := List.mem_filter.mpr ⟨List.mem_of_getElem? (i := 38) (by decide +kernel), by decide +kernel⟩
theorem mm_39 : Cond.selects RX0 yX0_keep yX0_keep ∈ zGW := List.mem_filter.mpr ⟨List.mem_of_getElem? (i := 39) (by decide +kernel), by decide +kernel⟩
theorem mm_40 : Cond.selects RX0 yX0_areEnoughBy yX0_areEnoughBy ∈ zGW := List.mem_filter.mpr ⟨List.mem_of_getElem? (i := 40) (by decide +kernel), by decide +kernel⟩
theorem mm_41 : Cond.selects RX8 yX8_firstQuestion yX8_firstQuestion ∈ zGW := List.mem_filter.mpr ⟨List.mem_of_getElem? (i := 41) (by decide +kernel), by decide +kernel⟩
theorem mm_42 : Cond.selects RX8 yX8_safeIfSwapped yX8_safeIfSwapped ∈ zGW := List.mem_filter.mpr ⟨List.mem_of_getElem? (i := 42) (by decide +kernel), by decide +kernel⟩
theorem mm_43 : Cond.selects RX8 yX8_firstBared yX8_firstBared ∈ zGW := List.mem_filter.mpr ⟨List.mem_of_getElem? (i := 43) (by decide +kernel), by decide +kernel⟩
theorem mm_44 : Cond.selects RX8 yX8_prepareBlurs yX8_prepareBlurs ∈ zGW := List.mem_filter.mpr ⟨List.mem_of_getElem? (i := 44) (by decide +kernel), by decide +kernel⟩
theorem mm_45 : Cond.selects RX8 yX8_prepareBlursOf yX8_prepareBlursOf ∈ zGW := List.mem_filter.mpr ⟨List.mem_of_getElem? (i := 45) (by decide +kernel), by decide +kernel⟩
theorem mm_46 : Cond.selects RX1 yX1_tryRow yX1_tryRow ∈ zGW := List.mem_filter.mpr ⟨List.mem_of_getElem? (i := 46) (by decide +kernel), by decide +kernel⟩
theorem mm_47 : Cond.selects RX1 yX1_whoFits yX1_whoFits ∈ zGW := List.mem_filter.mpr ⟨List.mem_of_getElem? (i := 47) (by decide +kernel), by decide +kernel⟩
theorem mm_48 : Cond.selects RX1 yX1_lossOf yX1_lossOf ∈ zGW := List.mem_filter.mpr ⟨List.mem_of_getElem? (i := 48) (by decide +kernel), by decide +kernel⟩
theorem mm_49 : Cond.selects RX8 yX8_toldGossips yX8_toldGossips ∈ zGW := List.mem_filter.mpr ⟨List.mem_of_getElem? (i := 49) (by decide +kernel), by decide +kernel⟩
theorem mm_50 : Cond.selects RX8 yX8_lossOfLine yX8_lossOfLine ∈ zGW := List.mem_filter.mpr ⟨List.mem_of_getElem? (i := 50) (by decide +kernel), by decide +kernel⟩
theorem mm_51 : Cond.initialized RL ∈ zGW := List.mem_filter.mpr ⟨List.mem_of_getElem? (i := 51) (by decide +kernel), by decide +kernel⟩
theorem mm_52 : Cond.initialized RX8 ∈ zGW := List.mem_filter.mpr ⟨List.mem_of_getElem? (i := 52) (by decide +kernel), by decide +kernel⟩
theorem mm_53 : Cond.initialized RX7 ∈ zGW := List.mem_filter.mpr ⟨List.mem_of_getElem? (i := 53) (by decide +kernel), by decide +kernel⟩
theorem mm_54 : Cond.initialized RX5 ∈ zGW := List.mem_filter.mpr ⟨List.mem_of_getElem? (i := 54) (by decide +kernel), by decide +kernel⟩
theorem mm_55 : Cond.initialized RX6 ∈ zGW := List.mem_filter.mpr ⟨List.mem_of_getElem? (i := 55) (by decide +kernel), by decide +kernel⟩
theorem mm_56 : Cond.initialized RX0 ∈ zGW := List.mem_filter.mpr ⟨List.mem_of_getElem? (i := 56) (by decide +kernel), by decide +kernel⟩
theorem mm_57 : Cond.initialized RX1 ∈ zGW := List.mem_filter.mpr ⟨List.mem_of_getElem? (i := 57) (by decide +kernel), by decide +kernel⟩
theorem mm_58 : Cond.initialized RX4 ∈ zGW := List.mem_filter.mpr ⟨List.mem_of_getElem? (i := 58) (by decide +kernel), by decide +kernel⟩
theorem mm_59 : Cond.initialized RX3 ∈ zGW := List.mem_filter.mpr ⟨List.mem_of_getElem? (i := 59) (by decide +kernel), by decide +kernel⟩
theorem mm_60 : Cond.initialized RX2 ∈ zGW := List.mem_filter.mpr ⟨List.mem_of_getElem? (i := 60) (by decide +kernel), by decide +kernel⟩
theorem mm_61 : Cond.initialized "java/lang/Math" ∈ zGW := List.mem_filter.mpr ⟨List.mem_of_getElem? (i := 61) (by decide +kernel), by decide +kernel⟩
theorem mm_62 : Cond.initialized RJ6 ∈ zGW := List.mem_filter.mpr ⟨List.mem_of_getElem? (i := 62) (by decide +kernel), by decide +kernel⟩
theorem mm_63 : Cond.classLink RL 8 RX8 ∈ zGW := List.mem_filter.mpr ⟨List.mem_of_getElem? (i := 63) (by decide +kernel), by decide +kernel⟩
theorem mm_64 : Cond.instantiable RX8 13 ∈ zGW := List.mem_filter.mpr ⟨List.mem_of_getElem? (i := 64) (by decide +kernel), by decide +kernel⟩
theorem mm_65 : Cond.methodLink RL 128 yX8_init ∈ zGW := List.mem_filter.mpr ⟨List.mem_of_getElem? (i := 65) (by decide +kernel), by decide +kernel⟩
theorem mm_66 : Cond.instanceMethod yX8_init ∈ zGW := List.mem_filter.mpr ⟨List.mem_of_getElem? (i := 66) (by decide +kernel), by decide +kernel⟩
theorem mm_67 : Cond.code yX8_init cX8_init 2 none ∈ zGW := List.mem_filter.mpr ⟨List.mem_of_getElem? (i := 67) (by decide +kernel), by decide +kernel⟩
theorem mm_68 : Cond.methodLink RX8 1 objectInit ∈ zGW := List.mem_filter.mpr ⟨List.mem_of_getElem? (i := 68) (by decide +kernel), by decide +kernel⟩
theorem mm_69 : Cond.instanceMethod objectInit ∈ zGW := List.mem_filter.mpr ⟨List.mem_of_getElem? (i := 69) (by decide +kernel), by decide +kernel⟩
theorem mm_70 : Cond.code objectInit ⟨#[0xb1]⟩ 1 none ∈ zGW := List.mem_filter.mpr ⟨List.mem_of_getElem? (i := 70) (by decide +kernel), by decide +kernel⟩
theorem mm_71 : Cond.classLink RX8 9 RX3 ∈ zGW := List.mem_filter.mpr ⟨List.mem_of_getElem? (i := 71) (by decide +kernel), by decide +kernel⟩
theorem mm_73 : Cond.classLink RX8 19 RX7 ∈ zGW := List.mem_filter.mpr ⟨List.mem_of_getElem? (i := 73) (by decide +kernel), by decide +kernel⟩
theorem mm_74 : Cond.instantiable RX7 2 ∈ zGW := List.mem_filter.mpr ⟨List.mem_of_getElem? (i := 74) (by decide +kernel), by decide +kernel⟩
theorem mm_76 : Cond.instanceMethod yX7_init ∈ zGW := List.mem_filter.mpr ⟨List.mem_of_getElem? (i := 76) (by decide +kernel), by decide +kernel⟩
theorem mm_77 : Cond.code yX7_init cX7_init 1 none ∈ zGW := List.mem_filter.mpr ⟨List.mem_of_getElem? (i := 77) (by decide +kernel), by decide +kernel⟩
theorem mm_78 : Cond.methodLink RX7 3 objectInit ∈ zGW := List.mem_filter.mpr ⟨List.mem_of_getElem? (i := 78) (by decide +kernel), by decide +kernel⟩
theorem mm_79 : Cond.fieldLink RX7 9 "TwoFit$Tape" "length" "I" ∈ zGW := List.mem_filter.mpr ⟨List.mem_of_getElem? (i := 79) (by decide +kernel), by decide +kernel⟩
theorem mm_80 : Cond.fieldLink RX8 114 "TwoFit$Tape" "length" "I" ∈ zGW := List.mem_filter.mpr ⟨List.mem_of_getElem? (i := 80) (by decide +kernel), by decide +kernel⟩
theorem mm_81 : Cond.fieldLink RX7 15 "TwoFit$Tape" "bytes" "[I" ∈ zGW := List.mem_filter.mpr ⟨List.mem_of_getElem? (i := 81) (by decide +kernel), by decide +kernel⟩
theorem mm_87 : Cond.arrayClass .int ∈ zGW := List.mem_filter.mpr ⟨List.mem_of_getElem? (i := 87) (by decide +kernel), by decide +kernel⟩
theorem mm_88 : Cond.classLink RX8 26 RX2 ∈ zGW := List.mem_filter.mpr ⟨List.mem_of_getElem? (i := 88) (by decide +kernel), by decide +kernel⟩
theorem mm_90 : Cond.classLink RX8 32 RX5 ∈ zGW := List.mem_filter.mpr ⟨List.mem_of_getElem? (i := 90) (by decide +kernel), by decide +kernel⟩
theorem mm_91 : Cond.instantiable RX5 3 ∈ zGW := List.mem_filter.mpr ⟨List.mem_of_getElem? (i := 91) (by decide +kernel), by decide +kernel⟩
theorem mm_93 : Cond.instanceMethod yX5_init ∈ zGW := List.mem_filter.mpr ⟨List.mem_of_getElem? (i := 93) (by decide +kernel), by decide +kernel⟩
theorem mm_94 : Cond.code yX5_init cX5_init 1 none ∈ zGW := List.mem_filter.mpr ⟨List.mem_of_getElem? (i := 94) (by decide +kernel), by decide +kernel⟩
theorem mm_95 : Cond.methodLink RX5 3 objectInit ∈ zGW := List.mem_filter.mpr ⟨List.mem_of_getElem? (i := 95) (by decide +kernel), by decide +kernel⟩
theorem mm_96 : Cond.fieldLink RX5 9 "TwoFit$Links" "number" "I" ∈ zGW := List.mem_filter.mpr ⟨List.mem_of_getElem? (i := 96) (by decide +kernel), by decide +kernel⟩
theorem mm_97 : Cond.fieldLink RX8 171 "TwoFit$Links" "number" "I" ∈ zGW := List.mem_filter.mpr ⟨List.mem_of_getElem? (i := 97) (by decide +kernel), by decide +kernel⟩
theorem mm_98 : Cond.fieldLink RX5 15 "TwoFit$Links" "from" "[I" ∈ zGW := List.mem_filter.mpr ⟨List.mem_of_getElem? (i := 98) (by decide +kernel), by decide +kernel⟩
theorem mm_99 : Cond.fieldLink RX5 19 "TwoFit$Links" "to" "[I" ∈ zGW := List.mem_filter.mpr ⟨List.mem_of_getElem? (i := 99) (by decide +kernel), by decide +kernel⟩
theorem mm_107 : Cond.classLink RX8 39 RX4 ∈ zGW := List.mem_filter.mpr ⟨List.mem_of_getElem? (i := 107) (by decide +kernel), by decide +kernel⟩
theorem mm_109 : Cond.classLink RX8 45 RX6 ∈ zGW := List.mem_filter.mpr ⟨List.mem_of_getElem? (i := 109) (by decide +kernel), by decide +kernel⟩
theorem mm_110 : Cond.instantiable RX6 10 ∈ zGW := List.mem_filter.mpr ⟨List.mem_of_getElem? (i := 110) (by decide +kernel), by decide +kernel⟩
theorem mm_112 : Cond.instanceMethod yX6_init ∈ zGW := List.mem_filter.mpr ⟨List.mem_of_getElem? (i := 112) (by decide +kernel), by decide +kernel⟩
theorem mm_113 : Cond.code yX6_init cX6_init 1 none ∈ zGW := List.mem_filter.mpr ⟨List.mem_of_getElem? (i := 113) (by decide +kernel), by decide +kernel⟩
theorem mm_114 : Cond.methodLink RX6 3 objectInit ∈ zGW := List.mem_filter.mpr ⟨List.mem_of_getElem? (i := 114) (by decide +kernel), by decide +kernel⟩
theorem mm_115 : Cond.fieldLink RX6 9 "TwoFit$Matching" "lines" "I" ∈ zGW := List.mem_filter.mpr ⟨List.mem_of_getElem? (i := 115) (by decide +kernel), by decide +kernel⟩
theorem mm_116 : Cond.fieldLink RX8 340 "TwoFit$Matching" "lines" "I" ∈ zGW := List.mem_filter.mpr ⟨List.mem_of_getElem? (i := 116) (by decide +kernel), by decide +kernel⟩
theorem mm_117 : Cond.fieldLink RX6 15 "TwoFit$Matching" "live" "I" ∈ zGW := List.mem_filter.mpr ⟨List.mem_of_getElem? (i := 117) (by decide +kernel), by decide +kernel⟩
theorem mm_118 : Cond.fieldLink RX8 341 "TwoFit$Matching" "live" "I" ∈ zGW := List.mem_filter.mpr ⟨List.mem_of_getElem? (i := 118) (by decide +kernel), by decide +kernel⟩
theorem mm_119 : Cond.fieldLink RX6 18 "TwoFit$Matching" "lacking" "I" ∈ zGW := List.mem_filter.mpr ⟨List.mem_of_getElem? (i := 119) (by decide +kernel), by decide +kernel⟩
theorem mm_120 : Cond.fieldLink RX8 238 "TwoFit$Matching" "lacking" "I" ∈ zGW := List.mem_filter.mpr ⟨List.mem_of_getElem? (i := 120) (by decide +kernel), by decide +kernel⟩
theorem mm_121 : Cond.fieldLink RX6 21 "TwoFit$Matching" "found" "I" ∈ zGW := List.mem_filter.mpr ⟨List.mem_of_getElem? (i := 121) (by decide +kernel), by decide +kernel⟩
theorem mm_122 : Cond.fieldLink RX8 245 "TwoFit$Matching" "found" "I" ∈ zGW := List.mem_filter.mpr ⟨List.mem_of_getElem? (i := 122) (by decide +kernel), by decide +kernel⟩
theorem mm_123 : Cond.fieldLink RX6 24 "TwoFit$Matching" "laid" "[I" ∈ zGW := List.mem_filter.mpr ⟨List.mem_of_getElem? (i := 123) (by decide +kernel), by decide +kernel⟩
theorem mm_124 : Cond.fieldLink RX8 334 "TwoFit$Matching" "laid" "[I" ∈ zGW := List.mem_filter.mpr ⟨List.mem_of_getElem? (i := 124) (by decide +kernel), by decide +kernel⟩
theorem mm_125 : Cond.fieldLink RX6 28 "TwoFit$Matching" "fit" "[I" ∈ zGW := List.mem_filter.mpr ⟨List.mem_of_getElem? (i := 125) (by decide +kernel), by decide +kernel⟩
theorem mm_126 : Cond.fieldLink RX8 211 "TwoFit$Matching" "fit" "[I" ∈ zGW := List.mem_filter.mpr ⟨List.mem_of_getElem? (i := 126) (by decide +kernel), by decide +kernel⟩
theorem mm_127 : Cond.fieldLink RX6 31 "TwoFit$Matching" "may" "[I" ∈ zGW := List.mem_filter.mpr ⟨List.mem_of_getElem? (i := 127) (by decide +kernel), by decide +kernel⟩
theorem mm_128 : Cond.fieldLink RX8 227 "TwoFit$Matching" "may" "[I" ∈ zGW := List.mem_filter.mpr ⟨List.mem_of_getElem? (i := 128) (by decide +kernel), by decide +kernel⟩
theorem mm_129 : Cond.fieldLink RX6 34 "TwoFit$Matching" "joint" "[I" ∈ zGW := List.mem_filter.mpr ⟨List.mem_of_getElem? (i := 129) (by decide +kernel), by decide +kernel⟩
theorem mm_130 : Cond.fieldLink RX6 37 "TwoFit$Matching" "ways" "[J" ∈ zGW := List.mem_filter.mpr ⟨List.mem_of_getElem? (i := 130) (by decide +kernel), by decide +kernel⟩
theorem mm_131 : Cond.fieldLink RX6 41 "TwoFit$Matching" "left" "[I" ∈ zGW := List.mem_filter.mpr ⟨List.mem_of_getElem? (i := 131) (by decide +kernel), by decide +kernel⟩
theorem mm_153 : Cond.arrayClass .long ∈ zGW := List.mem_filter.mpr ⟨List.mem_of_getElem? (i := 153) (by decide +kernel), by decide +kernel⟩
theorem mm_154 : Cond.classLink RX8 52 RX0 ∈ zGW := List.mem_filter.mpr ⟨List.mem_of_getElem? (i := 154) (by decide +kernel), by decide +kernel⟩
theorem mm_155 : Cond.instantiable RX0 5 ∈ zGW := List.mem_filter.mpr ⟨List.mem_of_getElem? (i := 155) (by decide +kernel), by decide +kernel⟩
theorem mm_157 : Cond.instanceMethod yX0_init ∈ zGW := List.mem_filter.mpr ⟨List.mem_of_getElem? (i := 157) (by decide +kernel), by decide +kernel⟩
theorem mm_158 : Cond.code yX0_init cX0_init 1 none ∈ zGW := List.mem_filter.mpr ⟨List.mem_of_getElem? (i := 158) (by decide +kernel), by decide +kernel⟩
theorem mm_159 : Cond.methodLink RX0 3 objectInit ∈ zGW := List.mem_filter.mpr ⟨List.mem_of_getElem? (i := 159) (by decide +kernel), by decide +kernel⟩
theorem mm_160 : Cond.fieldLink RX0 9 "TwoFit$Asking" "splits" "[I" ∈ zGW := List.mem_filter.mpr ⟨List.mem_of_getElem? (i := 160) (by decide +kernel), by decide +kernel⟩
theorem mm_161 : Cond.fieldLink RX0 15 "TwoFit$Asking" "splitCount" "I" ∈ zGW := List.mem_filter.mpr ⟨List.mem_of_getElem? (i := 161) (by decide +kernel), by decide +kernel⟩
theorem mm_162 : Cond.fieldLink RX0 19 "TwoFit$Asking" "sizes" "[I" ∈ zGW := List.mem_filter.mpr ⟨List.mem_of_getElem? (i := 162) (by decide +kernel), by decide +kernel⟩
theorem mm_163 : Cond.fieldLink RX0 22 "TwoFit$Asking" "bounds" "[I" ∈ zGW := List.mem_filter.mpr ⟨List.mem_of_getElem? (i := 163) (by decide +kernel), by decide +kernel⟩
theorem mm_164 : Cond.fieldLink RX0 25 "TwoFit$Asking" "time" "I" ∈ zGW := List.mem_filter.mpr ⟨List.mem_of_getElem? (i := 164) (by decide +kernel), by decide +kernel⟩
theorem mm_176 : Cond.classLink RX8 59 RX1 ∈ zGW := List.mem_filter.mpr ⟨List.mem_of_getElem? (i := 176) (by decide +kernel), by decide +kernel⟩
theorem mm_177 : Cond.instantiable RX1 7 ∈ zGW := List.mem_filter.mpr ⟨List.mem_of_getElem? (i := 177) (by decide +kernel), by decide +kernel⟩
theorem mm_179 : Cond.instanceMethod yX1_init ∈ zGW := List.mem_filter.mpr ⟨List.mem_of_getElem? (i := 179) (by decide +kernel), by decide +kernel⟩
theorem mm_180 : Cond.code yX1_init cX1_init 1 none ∈ zGW := List.mem_filter.mpr ⟨List.mem_of_getElem? (i := 180) (by decide +kernel), by decide +kernel⟩
theorem mm_181 : Cond.methodLink RX1 3 objectInit ∈ zGW := List.mem_filter.mpr ⟨List.mem_of_getElem? (i := 181) (by decide +kernel), by decide +kernel⟩
theorem mm_182 : Cond.classLink RX1 21 "[[I" ∈ zGW := List.mem_filter.mpr ⟨List.mem_of_getElem? (i := 182) (by decide +kernel), by decide +kernel⟩
theorem mm_184 : Cond.fieldLink RX1 9 "TwoFit$Blurs" "least" "I" ∈ zGW := List.mem_filter.mpr ⟨List.mem_of_getElem? (i := 184) (by decide +kernel), by decide +kernel⟩
theorem mm_185 : Cond.fieldLink RX8 286 "TwoFit$Blurs" "least" "I" ∈ zGW := List.mem_filter.mpr ⟨List.mem_of_getElem? (i := 185) (by decide +kernel), by decide +kernel⟩
theorem mm_186 : Cond.fieldLink RX1 15 "TwoFit$Blurs" "leastRow" "I" ∈ zGW := List.mem_filter.mpr ⟨List.mem_of_getElem? (i := 186) (by decide +kernel), by decide +kernel⟩
theorem mm_187 : Cond.fieldLink RX8 291 "TwoFit$Blurs" "leastRow" "I" ∈ zGW := List.mem_filter.mpr ⟨List.mem_of_getElem? (i := 187) (by decide +kernel), by decide +kernel⟩
theorem mm_188 : Cond.fieldLink RX1 18 "TwoFit$Blurs" "leastCut" "I" ∈ zGW := List.mem_filter.mpr ⟨List.mem_of_getElem? (i := 188) (by decide +kernel), by decide +kernel⟩
theorem mm_189 : Cond.fieldLink RX8 288 "TwoFit$Blurs" "leastCut" "I" ∈ zGW := List.mem_filter.mpr ⟨List.mem_of_getElem? (i := 189) (by decide +kernel), by decide +kernel⟩
theorem mm_190 : Cond.fieldLink RX1 23 "TwoFit$Blurs" "who" "[[I" ∈ zGW := List.mem_filter.mpr ⟨List.mem_of_getElem? (i := 190) (by decide +kernel), by decide +kernel⟩
theorem mm_191 : Cond.fieldLink RX1 26 "TwoFit$Blurs" "losses" "[[I" ∈ zGW := List.mem_filter.mpr ⟨List.mem_of_getElem? (i := 191) (by decide +kernel), by decide +kernel⟩
theorem mm_192 : Cond.fieldLink RX1 29 "TwoFit$Blurs" "tops" "[I" ∈ zGW := List.mem_filter.mpr ⟨List.mem_of_getElem? (i := 192) (by decide +kernel), by decide +kernel⟩
theorem mm_193 : Cond.fieldLink RX1 33 "TwoFit$Blurs" "levels" "[I" ∈ zGW := List.mem_filter.mpr ⟨List.mem_of_getElem? (i := 193) (by decide +kernel), by decide +kernel⟩
theorem mm_209 : Cond.instantiable RX4 11 ∈ zGW := List.mem_filter.mpr ⟨List.mem_of_getElem? (i := 209) (by decide +kernel), by decide +kernel⟩
theorem mm_211 : Cond.instanceMethod yX4_init ∈ zGW := List.mem_filter.mpr ⟨List.mem_of_getElem? (i := 211) (by decide +kernel), by decide +kernel⟩
theorem mm_212 : Cond.code yX4_init cX4_init 1 none ∈ zGW := List.mem_filter.mpr ⟨List.mem_of_getElem? (i := 212) (by decide +kernel), by decide +kernel⟩
theorem mm_213 : Cond.methodLink RX4 3 objectInit ∈ zGW := List.mem_filter.mpr ⟨List.mem_of_getElem? (i := 213) (by decide +kernel), by decide +kernel⟩
theorem mm_214 : Cond.fieldLink RX4 9 "TwoFit$Gossip" "isTold" "Z" ∈ zGW := List.mem_filter.mpr ⟨List.mem_of_getElem? (i := 214) (by decide +kernel), by decide +kernel⟩
theorem mm_215 : Cond.fieldLink RX8 325 "TwoFit$Gossip" "isTold" "Z" ∈ zGW := List.mem_filter.mpr ⟨List.mem_of_getElem? (i := 215) (by decide +kernel), by decide +kernel⟩
theorem mm_216 : Cond.fieldLink RX4 15 "TwoFit$Gossip" "ofBook" "I" ∈ zGW := List.mem_filter.mpr ⟨List.mem_of_getElem? (i := 216) (by decide +kernel), by decide +kernel⟩
theorem mm_217 : Cond.fieldLink RX8 372 "TwoFit$Gossip" "ofBook" "I" ∈ zGW := List.mem_filter.mpr ⟨List.mem_of_getElem? (i := 217) (by decide +kernel), by decide +kernel⟩
theorem mm_218 : Cond.fieldLink RX4 19 "TwoFit$Gossip" "holds" "I" ∈ zGW := List.mem_filter.mpr ⟨List.mem_of_getElem? (i := 218) (by decide +kernel), by decide +kernel⟩
theorem mm_219 : Cond.fieldLink RX8 357 "TwoFit$Gossip" "holds" "I" ∈ zGW := List.mem_filter.mpr ⟨List.mem_of_getElem? (i := 219) (by decide +kernel), by decide +kernel⟩
theorem mm_220 : Cond.fieldLink RX4 22 "TwoFit$Gossip" "fault" "I" ∈ zGW := List.mem_filter.mpr ⟨List.mem_of_getElem? (i := 220) (by decide +kernel), by decide +kernel⟩
theorem mm_221 : Cond.fieldLink RX8 186 "TwoFit$Gossip" "fault" "I" ∈ zGW := List.mem_filter.mpr ⟨List.mem_of_getElem? (i := 221) (by decide +kernel), by decide +kernel⟩
theorem mm_222 : Cond.fieldLink RX4 25 "TwoFit$Gossip" "faultAt" "I" ∈ zGW := List.mem_filter.mpr ⟨List.mem_of_getElem? (i := 222) (by decide +kernel), by decide +kernel⟩
theorem mm_223 : Cond.fieldLink RX8 189 "TwoFit$Gossip" "faultAt" "I" ∈ zGW := List.mem_filter.mpr ⟨List.mem_of_getElem? (i := 223) (by decide +kernel), by decide +kernel⟩
theorem mm_224 : Cond.fieldLink RX4 28 "TwoFit$Gossip" "ofLine" "I" ∈ zGW := List.mem_filter.mpr ⟨List.mem_of_getElem? (i := 224) (by decide +kernel), by decide +kernel⟩
theorem mm_225 : Cond.fieldLink RX4 31 "TwoFit$Gossip" "letters" "[I" ∈ zGW := List.mem_filter.mpr ⟨List.mem_of_getElem? (i := 225) (by decide +kernel), by decide +kernel⟩
theorem mm_226 : Cond.fieldLink RX4 35 "TwoFit$Gossip" "text" "[I" ∈ zGW := List.mem_filter.mpr ⟨List.mem_of_getElem? (i := 226) (by decide +kernel), by decide +kernel⟩
theorem mm_227 : Cond.fieldLink RX4 38 "TwoFit$Gossip" "length" "I" ∈ zGW := List.mem_filter.mpr ⟨List.mem_of_getElem? (i := 227) (by decide +kernel), by decide +kernel⟩
theorem mm_228 : Cond.fieldLink RX4 41 "TwoFit$Gossip" "at" "I" ∈ zGW := List.mem_filter.mpr ⟨List.mem_of_getElem? (i := 228) (by decide +kernel), by decide +kernel⟩
theorem mm_229 : Cond.fieldLink RX4 44 "TwoFit$Gossip" "refused" "Z" ∈ zGW := List.mem_filter.mpr ⟨List.mem_of_getElem? (i := 229) (by decide +kernel), by decide +kernel⟩
theorem mm_253 : Cond.instantiable RX3 6 ∈ zGW := List.mem_filter.mpr ⟨List.mem_of_getElem? (i := 253) (by decide +kernel), by decide +kernel⟩
theorem mm_254 : Cond.methodLink RX8 81 yX3_init ∈ zGW := List.mem_filter.mpr ⟨List.mem_of_getElem? (i := 254) (by decide +kernel), by decide +kernel⟩
theorem mm_255 : Cond.instanceMethod yX3_init ∈ zGW := List.mem_filter.mpr ⟨List.mem_of_getElem? (i := 255) (by decide +kernel), by decide +kernel⟩
theorem mm_256 : Cond.code yX3_init cX3_init 2 none ∈ zGW := List.mem_filter.mpr ⟨List.mem_of_getElem? (i := 256) (by decide +kernel), by decide +kernel⟩
theorem mm_257 : Cond.methodLink RX3 3 objectInit ∈ zGW := List.mem_filter.mpr ⟨List.mem_of_getElem? (i := 257) (by decide +kernel), by decide +kernel⟩
theorem mm_258 : Cond.fieldLink RX3 9 "TwoFit$Column" "weighs" "I" ∈ zGW := List.mem_filter.mpr ⟨List.mem_of_getElem? (i := 258) (by decide +kernel), by decide +kernel⟩
theorem mm_259 : Cond.fieldLink RX8 98 "TwoFit$Column" "weighs" "I" ∈ zGW := List.mem_filter.mpr ⟨List.mem_of_getElem? (i := 259) (by decide +kernel), by decide +kernel⟩
theorem mm_260 : Cond.fieldLink RX3 15 "TwoFit$Column" "above" "[I" ∈ zGW := List.mem_filter.mpr ⟨List.mem_of_getElem? (i := 260) (by decide +kernel), by decide +kernel⟩
theorem mm_261 : Cond.fieldLink RX3 19 "TwoFit$Column" "sizes" "[I" ∈ zGW := List.mem_filter.mpr ⟨List.mem_of_getElem? (i := 261) (by decide +kernel), by decide +kernel⟩
theorem mm_262 : Cond.fieldLink RX3 22 "TwoFit$Column" "who" "[I" ∈ zGW := List.mem_filter.mpr ⟨List.mem_of_getElem? (i := 262) (by decide +kernel), by decide +kernel⟩
theorem mm_263 : Cond.fieldLink RX3 25 "TwoFit$Column" "values" "[I" ∈ zGW := List.mem_filter.mpr ⟨List.mem_of_getElem? (i := 263) (by decide +kernel), by decide +kernel⟩
theorem mm_264 : Cond.fieldLink RX3 28 "TwoFit$Column" "settled" "I" ∈ zGW := List.mem_filter.mpr ⟨List.mem_of_getElem? (i := 264) (by decide +kernel), by decide +kernel⟩
theorem mm_278 : Cond.instantiable RX2 5 ∈ zGW := List.mem_filter.mpr ⟨List.mem_of_getElem? (i := 278) (by decide +kernel), by decide +kernel⟩
theorem mm_280 : Cond.instanceMethod yX2_init ∈ zGW := List.mem_filter.mpr ⟨List.mem_of_getElem? (i := 280) (by decide +kernel), by decide +kernel⟩
theorem mm_281 : Cond.code yX2_init cX2_init 1 none ∈ zGW := List.mem_filter.mpr ⟨List.mem_of_getElem? (i := 281) (by decide +kernel), by decide +kernel⟩
theorem mm_282 : Cond.methodLink RX2 3 objectInit ∈ zGW := List.mem_filter.mpr ⟨List.mem_of_getElem? (i := 282) (by decide +kernel), by decide +kernel⟩
theorem mm_283 : Cond.classLink RX2 26 "[[I" ∈ zGW := List.mem_filter.mpr ⟨List.mem_of_getElem? (i := 283) (by decide +kernel), by decide +kernel⟩
theorem mm_284 : Cond.fieldLink RX2 9 "TwoFit$Book" "lines" "I" ∈ zGW := List.mem_filter.mpr ⟨List.mem_of_getElem? (i := 284) (by decide +kernel), by decide +kernel⟩
theorem mm_285 : Cond.fieldLink RX8 322 "TwoFit$Book" "lines" "I" ∈ zGW := List.mem_filter.mpr ⟨List.mem_of_getElem? (i := 285) (by decide +kernel), by decide +kernel⟩
theorem mm_286 : Cond.fieldLink RX2 15 "TwoFit$Book" "live" "I" ∈ zGW := List.mem_filter.mpr ⟨List.mem_of_getElem? (i := 286) (by decide +kernel), by decide +kernel⟩
theorem mm_287 : Cond.fieldLink RX8 151 "TwoFit$Book" "live" "I" ∈ zGW := List.mem_filter.mpr ⟨List.mem_of_getElem? (i := 287) (by decide +kernel), by decide +kernel⟩
theorem mm_288 : Cond.fieldLink RX2 18 "TwoFit$Book" "isShown" "Z" ∈ zGW := List.mem_filter.mpr ⟨List.mem_of_getElem? (i := 288) (by decide +kernel), by decide +kernel⟩
theorem mm_289 : Cond.fieldLink RX8 164 "TwoFit$Book" "isShown" "Z" ∈ zGW := List.mem_filter.mpr ⟨List.mem_of_getElem? (i := 289) (by decide +kernel), by decide +kernel⟩
theorem mm_290 : Cond.fieldLink RX2 22 "TwoFit$Book" "owners" "[I" ∈ zGW := List.mem_filter.mpr ⟨List.mem_of_getElem? (i := 290) (by decide +kernel), by decide +kernel⟩
theorem mm_291 : Cond.fieldLink RX2 28 "TwoFit$Book" "nodes" "[[I" ∈ zGW := List.mem_filter.mpr ⟨List.mem_of_getElem? (i := 291) (by decide +kernel), by decide +kernel⟩
theorem mm_303 : Cond.fieldLink RX8 11 "TwoFit" "columns" "[LTwoFit$Column;" ∈ zGW := List.mem_filter.mpr ⟨List.mem_of_getElem? (i := 303) (by decide +kernel), by decide +kernel⟩
theorem mm_304 : Cond.fieldLink RX8 15 "TwoFit" "wishes" "[I" ∈ zGW := List.mem_filter.mpr ⟨List.mem_of_getElem? (i := 304) (by decide +kernel), by decide +kernel⟩
theorem mm_305 : Cond.fieldLink RX8 22 "TwoFit" "tape" "LTwoFit$Tape;" ∈ zGW := List.mem_filter.mpr ⟨List.mem_of_getElem? (i := 305) (by decide +kernel), by decide +kernel⟩
theorem mm_306 : Cond.fieldLink RX8 28 "TwoFit" "books" "[LTwoFit$Book;" ∈ zGW := List.mem_filter.mpr ⟨List.mem_of_getElem? (i := 306) (by decide +kernel), by decide +kernel⟩
theorem mm_307 : Cond.fieldLink RX8 35 "TwoFit" "links" "LTwoFit$Links;" ∈ zGW := List.mem_filter.mpr ⟨List.mem_of_getElem? (i := 307) (by decide +kernel), by decide +kernel⟩
theorem mm_308 : Cond.fieldLink RX8 41 "TwoFit" "gossips" "[LTwoFit$Gossip;" ∈ zGW := List.mem_filter.mpr ⟨List.mem_of_getElem? (i := 308) (by decide +kernel), by decide +kernel⟩
theorem mm_309 : Cond.fieldLink RX8 48 "TwoFit" "matching" "LTwoFit$Matching;" ∈ zGW := List.mem_filter.mpr ⟨List.mem_of_getElem? (i := 309) (by decide +kernel), by decide +kernel⟩
theorem mm_310 : Cond.fieldLink RX8 55 "TwoFit" "asking" "LTwoFit$Asking;" ∈ zGW := List.mem_filter.mpr ⟨List.mem_of_getElem? (i := 310) (by decide +kernel), by decide +kernel⟩
theorem mm_311 : Cond.fieldLink RX8 62 "TwoFit" "blurs" "LTwoFit$Blurs;" ∈ zGW := List.mem_filter.mpr ⟨List.mem_of_getElem? (i := 311) (by decide +kernel), by decide +kernel⟩
theorem mm_312 : Cond.fieldLink RX8 66 "TwoFit" "letters" "[I" ∈ zGW := List.mem_filter.mpr ⟨List.mem_of_getElem? (i := 312) (by decide +kernel), by decide +kernel⟩
theorem mm_313 : Cond.fieldLink RX8 70 "TwoFit" "draft" "LTwoFit$Gossip;" ∈ zGW := List.mem_filter.mpr ⟨List.mem_of_getElem? (i := 313) (by decide +kernel), by decide +kernel⟩
theorem mm_314 : Cond.fieldLink RX8 74 "TwoFit" "people" "I" ∈ zGW := List.mem_filter.mpr ⟨List.mem_of_getElem? (i := 314) (by decide +kernel), by decide +kernel⟩
theorem mm_315 : Cond.fieldLink RX8 78 "TwoFit" "bookCount" "I" ∈ zGW := List.mem_filter.mpr ⟨List.mem_of_getElem? (i := 315) (by decide +kernel), by decide +kernel⟩
theorem mm_343 : Cond.methodLink RL 23 yX8_feed ∈ zGW := List.mem_filter.mpr ⟨List.mem_of_getElem? (i := 343) (by decide +kernel), by decide +kernel⟩
theorem mm_344 : Cond.instanceMethod yX8_feed ∈ zGW := List.mem_filter.mpr ⟨List.mem_of_getElem? (i := 344) (by decide +kernel), by decide +kernel⟩
theorem mm_345 : Cond.selects RX8 yX8_feed yX8_feed ∈ zGW := List.mem_filter.mpr ⟨List.mem_of_getElem? (i := 345) (by decide +kernel), by decide +kernel⟩
theorem mm_346 : Cond.code yX8_feed cX8_feed 6 (some .int) ∈ zGW := List.mem_filter.mpr ⟨List.mem_of_getElem? (i := 346) (by decide +kernel), by decide +kernel⟩
theorem mm_347 : Cond.methodLink RX8 117 yX7_append ∈ zGW := List.mem_filter.mpr ⟨List.mem_of_getElem? (i := 347) (by decide +kernel), by decide +kernel⟩
theorem mm_348 : Cond.instanceMethod yX7_append ∈ zGW := List.mem_filter.mpr ⟨List.mem_of_getElem? (i := 348) (by decide +kernel), by decide +kernel⟩
theorem mm_349 : Cond.selects RX7 yX7_append yX7_append ∈ zGW := List.mem_filter.mpr ⟨List.mem_of_getElem? (i := 349) (by decide +kernel), by decide +kernel⟩
theorem mm_350 : Cond.code yX7_append cX7_append 3 none ∈ zGW := List.mem_filter.mpr ⟨List.mem_of_getElem? (i := 350) (by decide +kernel), by decide +kernel⟩
theorem mm_351 : Cond.methodLink RL 27 yX8_book ∈ zGW := List.mem_filter.mpr ⟨List.mem_of_getElem? (i := 351) (by decide +kernel), by decide +kernel⟩
theorem mm_352 : Cond.instanceMethod yX8_book ∈ zGW := List.mem_filter.mpr ⟨List.mem_of_getElem? (i := 352) (by decide +kernel), by decide +kernel⟩
theorem mm_353 : Cond.selects RX8 yX8_book yX8_book ∈ zGW := List.mem_filter.mpr ⟨List.mem_of_getElem? (i := 353) (by decide +kernel), by decide +kernel⟩
theorem mm_354 : Cond.code yX8_book cX8_book 9 (some .int) ∈ zGW := List.mem_filter.mpr ⟨List.mem_of_getElem? (i := 354) (by decide +kernel), by decide +kernel⟩
theorem mm_355 : Cond.methodLink RX8 87 yX8_within ∈ zGW := List.mem_filter.mpr ⟨List.mem_of_getElem? (i := 355) (by decide +kernel), by decide +kernel⟩
theorem mm_356 : Cond.static yX8_within ∈ zGW := List.mem_filter.mpr ⟨List.mem_of_getElem? (i := 356) (by decide +kernel), by decide +kernel⟩
theorem mm_357 : Cond.code yX8_within cX8_within 3 (some .boolean) ∈ zGW := List.mem_filter.mpr ⟨List.mem_of_getElem? (i := 357) (by decide +kernel), by decide +kernel⟩
theorem mm_358 : Cond.methodLink RX8 120 yX8_isLevel ∈ zGW := List.mem_filter.mpr ⟨List.mem_of_getElem? (i := 358) (by decide +kernel), by decide +kernel⟩
theorem mm_359 : Cond.static yX8_isLevel ∈ zGW := List.mem_filter.mpr ⟨List.mem_of_getElem? (i := 359) (by decide +kernel), by decide +kernel⟩
theorem mm_360 : Cond.code yX8_isLevel cX8_isLevel 1 (some .boolean) ∈ zGW := List.mem_filter.mpr ⟨List.mem_of_getElem? (i := 360) (by decide +kernel), by decide +kernel⟩
theorem mm_361 : Cond.methodLink RX8 131 yX8_tellsPeople ∈ zGW := List.mem_filter.mpr ⟨List.mem_of_getElem? (i := 361) (by decide +kernel), by decide +kernel⟩
theorem mm_363 : Cond.instanceMethod yX8_tellsPeople ∈ zGW := List.mem_filter.mpr ⟨List.mem_of_getElem? (i := 363) (by decide +kernel), by decide +kernel⟩
theorem mm_364 : Cond.code yX8_tellsPeople cX8_tellsPeople 5 (some .boolean) ∈ zGW := List.mem_filter.mpr ⟨List.mem_of_getElem? (i := 364) (by decide +kernel), by decide +kernel⟩
theorem mm_365 : Cond.methodLink RX8 134 yX7_byteAt ∈ zGW := List.mem_filter.mpr ⟨List.mem_of_getElem? (i := 365) (by decide +kernel), by decide +kernel⟩
theorem mm_366 : Cond.instanceMethod yX7_byteAt ∈ zGW := List.mem_filter.mpr ⟨List.mem_of_getElem? (i := 366) (by decide +kernel), by decide +kernel⟩
theorem mm_367 : Cond.selects RX7 yX7_byteAt yX7_byteAt ∈ zGW := List.mem_filter.mpr ⟨List.mem_of_getElem? (i := 367) (by decide +kernel), by decide +kernel⟩
theorem mm_368 : Cond.code yX7_byteAt cX7_byteAt 2 (some .int) ∈ zGW := List.mem_filter.mpr ⟨List.mem_of_getElem? (i := 368) (by decide +kernel), by decide +kernel⟩
theorem mm_370 : Cond.methodLink RX8 111 yX8_isPerson ∈ zGW := List.mem_filter.mpr ⟨List.mem_of_getElem? (i := 370) (by decide +kernel), by decide +kernel⟩
theorem mm_372 : Cond.instanceMethod yX8_isPerson ∈ zGW := List.mem_filter.mpr ⟨List.mem_of_getElem? (i := 372) (by decide +kernel), by decide +kernel⟩
theorem mm_373 : Cond.code yX8_isPerson cX8_isPerson 2 (some .boolean) ∈ zGW := List.mem_filter.mpr ⟨List.mem_of_getElem? (i := 373) (by decide +kernel), by decide +kernel⟩
theorem mm_374 : Cond.methodLink RX8 137 yX2_add ∈ zGW := List.mem_filter.mpr ⟨List.mem_of_getElem? (i := 374) (by decide +kernel), by decide +kernel⟩
theorem mm_375 : Cond.instanceMethod yX2_add ∈ zGW := List.mem_filter.mpr ⟨List.mem_of_getElem? (i := 375) (by decide +kernel), by decide +kernel⟩
theorem mm_376 : Cond.selects RX2 yX2_add yX2_add ∈ zGW := List.mem_filter.mpr ⟨List.mem_of_getElem? (i := 376) (by decide +kernel), by decide +kernel⟩
theorem mm_377 : Cond.code yX2_add cX2_add 2 none ∈ zGW := List.mem_filter.mpr ⟨List.mem_of_getElem? (i := 377) (by decide +kernel), by decide +kernel⟩
theorem mm_378 : Cond.methodLink RX8 140 yX8_fillColumn ∈ zGW := List.mem_filter.mpr ⟨List.mem_of_getElem? (i := 378) (by decide +kernel), by decide +kernel⟩
theorem mm_380 : Cond.instanceMethod yX8_fillColumn ∈ zGW := List.mem_filter.mpr ⟨List.mem_of_getElem? (i := 380) (by decide +kernel), by decide +kernel⟩
theorem mm_381 : Cond.code yX8_fillColumn cX8_fillColumn 6 none ∈ zGW := List.mem_filter.mpr ⟨List.mem_of_getElem? (i := 381) (by decide +kernel), by decide +kernel⟩
theorem mm_382 : Cond.methodLink RX8 202 yX2_owner ∈ zGW := List.mem_filter.mpr ⟨List.mem_of_getElem? (i := 382) (by decide +kernel), by decide +kernel⟩
theorem mm_383 : Cond.instanceMethod yX2_owner ∈ zGW := List.mem_filter.mpr ⟨List.mem_of_getElem? (i := 383) (by decide +kernel), by decide +kernel⟩
theorem mm_384 : Cond.selects RX2 yX2_owner yX2_owner ∈ zGW := List.mem_filter.mpr ⟨List.mem_of_getElem? (i := 384) (by decide +kernel), by decide +kernel⟩
theorem mm_385 : Cond.code yX2_owner cX2_owner 2 (some .int) ∈ zGW := List.mem_filter.mpr ⟨List.mem_of_getElem? (i := 385) (by decide +kernel), by decide +kernel⟩
theorem mm_387 : Cond.methodLink RX8 328 yX3_valueOf ∈ zGW := List.mem_filter.mpr ⟨List.mem_of_getElem? (i := 387) (by decide +kernel), by decide +kernel⟩
theorem mm_388 : Cond.instanceMethod yX3_valueOf ∈ zGW := List.mem_filter.mpr ⟨List.mem_of_getElem? (i := 388) (by decide +kernel), by decide +kernel⟩
theorem mm_389 : Cond.selects RX3 yX3_valueOf yX3_valueOf ∈ zGW := List.mem_filter.mpr ⟨List.mem_of_getElem? (i := 389) (by decide +kernel), by decide +kernel⟩
theorem mm_390 : Cond.code yX3_valueOf cX3_valueOf 2 (some .int) ∈ zGW := List.mem_filter.mpr ⟨List.mem_of_getElem? (i := 390) (by decide +kernel), by decide +kernel⟩
theorem mm_391 : Cond.methodLink RX8 123 yX3_raised ∈ zGW := List.mem_filter.mpr ⟨List.mem_of_getElem? (i := 391) (by decide +kernel), by decide +kernel⟩
theorem mm_392 : Cond.instanceMethod yX3_raised ∈ zGW := List.mem_filter.mpr ⟨List.mem_of_getElem? (i := 392) (by decide +kernel), by decide +kernel⟩
theorem mm_393 : Cond.selects RX3 yX3_raised yX3_raised ∈ zGW := List.mem_filter.mpr ⟨List.mem_of_getElem? (i := 393) (by decide +kernel), by decide +kernel⟩
theorem mm_394 : Cond.code yX3_raised cX3_raised 5 (some .int) ∈ zGW := List.mem_filter.mpr ⟨List.mem_of_getElem? (i := 394) (by decide +kernel), by decide +kernel⟩
theorem mm_396 : Cond.methodLink RX8 331 yX2_put ∈ zGW := List.mem_filter.mpr ⟨List.mem_of_getElem? (i := 396) (by decide +kernel), by decide +kernel⟩
theorem mm_397 : Cond.instanceMethod yX2_put ∈ zGW := List.mem_filter.mpr ⟨List.mem_of_getElem? (i := 397) (by decide +kernel), by decide +kernel⟩
theorem mm_398 : Cond.selects RX2 yX2_put yX2_put ∈ zGW := List.mem_filter.mpr ⟨List.mem_of_getElem? (i := 398) (by decide +kernel), by decide +kernel⟩
theorem mm_399 : Cond.code yX2_put cX2_put 4 none ∈ zGW := List.mem_filter.mpr ⟨List.mem_of_getElem? (i := 399) (by decide +kernel), by decide +kernel⟩
theorem mm_401 : Cond.static yX8_isColumn ∈ zGW := List.mem_filter.mpr ⟨List.mem_of_getElem? (i := 401) (by decide +kernel), by decide +kernel⟩
theorem mm_402 : Cond.code yX8_isColumn cX8_isColumn 1 (some .boolean) ∈ zGW := List.mem_filter.mpr ⟨List.mem_of_getElem? (i := 402) (by decide +kernel), by decide +kernel⟩
theorem mm_403 : Cond.methodLink RX8 144 yX7_clear ∈ zGW := List.mem_filter.mpr ⟨List.mem_of_getElem? (i := 403) (by decide +kernel), by decide +kernel⟩
theorem mm_404 : Cond.instanceMethod yX7_clear ∈ zGW := List.mem_filter.mpr ⟨List.mem_of_getElem? (i := 404) (by decide +kernel), by decide +kernel⟩
theorem mm_405 : Cond.selects RX7 yX7_clear yX7_clear ∈ zGW := List.mem_filter.mpr ⟨List.mem_of_getElem? (i := 405) (by decide +kernel), by decide +kernel⟩
theorem mm_406 : Cond.code yX7_clear cX7_clear 1 none ∈ zGW := List.mem_filter.mpr ⟨List.mem_of_getElem? (i := 406) (by decide +kernel), by decide +kernel⟩
theorem mm_407 : Cond.methodLink RL 59 yX8_fits ∈ zGW := List.mem_filter.mpr ⟨List.mem_of_getElem? (i := 407) (by decide +kernel), by decide +kernel⟩
theorem mm_408 : Cond.instanceMethod yX8_fits ∈ zGW := List.mem_filter.mpr ⟨List.mem_of_getElem? (i := 408) (by decide +kernel), by decide +kernel⟩
theorem mm_409 : Cond.selects RX8 yX8_fits yX8_fits ∈ zGW := List.mem_filter.mpr ⟨List.mem_of_getElem? (i := 409) (by decide +kernel), by decide +kernel⟩
theorem mm_410 : Cond.code yX8_fits cX8_fits 4 (some .int) ∈ zGW := List.mem_filter.mpr ⟨List.mem_of_getElem? (i := 410) (by decide +kernel), by decide +kernel⟩
theorem mm_411 : Cond.methodLink RX8 168 yX8_isLine ∈ zGW := List.mem_filter.mpr ⟨List.mem_of_getElem? (i := 411) (by decide +kernel), by decide +kernel⟩
theorem mm_413 : Cond.instanceMethod yX8_isLine ∈ zGW := List.mem_filter.mpr ⟨List.mem_of_getElem? (i := 413) (by decide +kernel), by decide +kernel⟩
theorem mm_414 : Cond.code yX8_isLine cX8_isLine 3 (some .boolean) ∈ zGW := List.mem_filter.mpr ⟨List.mem_of_getElem? (i := 414) (by decide +kernel), by decide +kernel⟩
theorem mm_415 : Cond.methodLink RX8 161 yX8_isBook ∈ zGW := List.mem_filter.mpr ⟨List.mem_of_getElem? (i := 415) (by decide +kernel), by decide +kernel⟩
theorem mm_417 : Cond.instanceMethod yX8_isBook ∈ zGW := List.mem_filter.mpr ⟨List.mem_of_getElem? (i := 417) (by decide +kernel), by decide +kernel⟩
theorem mm_418 : Cond.code yX8_isBook cX8_isBook 2 (some .boolean) ∈ zGW := List.mem_filter.mpr ⟨List.mem_of_getElem? (i := 418) (by decide +kernel), by decide +kernel⟩
theorem mm_419 : Cond.methodLink RX8 205 yX8_areGossips ∈ zGW := List.mem_filter.mpr ⟨List.mem_of_getElem? (i := 419) (by decide +kernel), by decide +kernel⟩
theorem mm_420 : Cond.static yX8_areGossips ∈ zGW := List.mem_filter.mpr ⟨List.mem_of_getElem? (i := 420) (by decide +kernel), by decide +kernel⟩
theorem mm_421 : Cond.code yX8_areGossips cX8_areGossips 1 (some .boolean) ∈ zGW := List.mem_filter.mpr ⟨List.mem_of_getElem? (i := 421) (by decide +kernel), by decide +kernel⟩
theorem mm_422 : Cond.methodLink RX8 147 yX8_isLive ∈ zGW := List.mem_filter.mpr ⟨List.mem_of_getElem? (i := 422) (by decide +kernel), by decide +kernel⟩
theorem mm_424 : Cond.instanceMethod yX8_isLive ∈ zGW := List.mem_filter.mpr ⟨List.mem_of_getElem? (i := 424) (by decide +kernel), by decide +kernel⟩
theorem mm_425 : Cond.code yX8_isLive cX8_isLive 3 (some .boolean) ∈ zGW := List.mem_filter.mpr ⟨List.mem_of_getElem? (i := 425) (by decide +kernel), by decide +kernel⟩
theorem mm_426 : Cond.methodLink RX8 208 yX8_fit ∈ zGW := List.mem_filter.mpr ⟨List.mem_of_getElem? (i := 426) (by decide +kernel), by decide +kernel⟩
theorem mm_428 : Cond.instanceMethod yX8_fit ∈ zGW := List.mem_filter.mpr ⟨List.mem_of_getElem? (i := 428) (by decide +kernel), by decide +kernel⟩
theorem mm_429 : Cond.code yX8_fit cX8_fit 3 none ∈ zGW := List.mem_filter.mpr ⟨List.mem_of_getElem? (i := 429) (by decide +kernel), by decide +kernel⟩
theorem mm_430 : Cond.methodLink RX8 297 yX8_openFor ∈ zGW := List.mem_filter.mpr ⟨List.mem_of_getElem? (i := 430) (by decide +kernel), by decide +kernel⟩
theorem mm_432 : Cond.instanceMethod yX8_openFor ∈ zGW := List.mem_filter.mpr ⟨List.mem_of_getElem? (i := 432) (by decide +kernel), by decide +kernel⟩
theorem mm_433 : Cond.code yX8_openFor cX8_openFor 2 (some .int) ∈ zGW := List.mem_filter.mpr ⟨List.mem_of_getElem? (i := 433) (by decide +kernel), by decide +kernel⟩
theorem mm_434 : Cond.methodLink RX8 319 yX8_shownBooks ∈ zGW := List.mem_filter.mpr ⟨List.mem_of_getElem? (i := 434) (by decide +kernel), by decide +kernel⟩
theorem mm_436 : Cond.instanceMethod yX8_shownBooks ∈ zGW := List.mem_filter.mpr ⟨List.mem_of_getElem? (i := 436) (by decide +kernel), by decide +kernel⟩
theorem mm_437 : Cond.code yX8_shownBooks cX8_shownBooks 3 (some .int) ∈ zGW := List.mem_filter.mpr ⟨List.mem_of_getElem? (i := 437) (by decide +kernel), by decide +kernel⟩
theorem mm_438 : Cond.methodLink RX8 300 yX8_layOut ∈ zGW := List.mem_filter.mpr ⟨List.mem_of_getElem? (i := 438) (by decide +kernel), by decide +kernel⟩
theorem mm_440 : Cond.instanceMethod yX8_layOut ∈ zGW := List.mem_filter.mpr ⟨List.mem_of_getElem? (i := 440) (by decide +kernel), by decide +kernel⟩
theorem mm_441 : Cond.code yX8_layOut cX8_layOut 5 none ∈ zGW := List.mem_filter.mpr ⟨List.mem_of_getElem? (i := 441) (by decide +kernel), by decide +kernel⟩
theorem mm_442 : Cond.methodLink RX8 174 yX8_place ∈ zGW := List.mem_filter.mpr ⟨List.mem_of_getElem? (i := 442) (by decide +kernel), by decide +kernel⟩
theorem mm_443 : Cond.static yX8_place ∈ zGW := List.mem_filter.mpr ⟨List.mem_of_getElem? (i := 443) (by decide +kernel), by decide +kernel⟩
theorem mm_444 : Cond.code yX8_place cX8_place 2 (some .int) ∈ zGW := List.mem_filter.mpr ⟨List.mem_of_getElem? (i := 444) (by decide +kernel), by decide +kernel⟩
theorem mm_445 : Cond.methodLink RX8 337 yX5_reached ∈ zGW := List.mem_filter.mpr ⟨List.mem_of_getElem? (i := 445) (by decide +kernel), by decide +kernel⟩
theorem mm_446 : Cond.instanceMethod yX5_reached ∈ zGW := List.mem_filter.mpr ⟨List.mem_of_getElem? (i := 446) (by decide +kernel), by decide +kernel⟩
theorem mm_447 : Cond.selects RX5 yX5_reached yX5_reached ∈ zGW := List.mem_filter.mpr ⟨List.mem_of_getElem? (i := 447) (by decide +kernel), by decide +kernel⟩
theorem mm_448 : Cond.code yX5_reached cX5_reached 9 (some .int) ∈ zGW := List.mem_filter.mpr ⟨List.mem_of_getElem? (i := 448) (by decide +kernel), by decide +kernel⟩
theorem mm_449 : Cond.methodLink RX8 345 yX8_fitLaid ∈ zGW := List.mem_filter.mpr ⟨List.mem_of_getElem? (i := 449) (by decide +kernel), by decide +kernel⟩
theorem mm_451 : Cond.instanceMethod yX8_fitLaid ∈ zGW := List.mem_filter.mpr ⟨List.mem_of_getElem? (i := 451) (by decide +kernel), by decide +kernel⟩
theorem mm_452 : Cond.code yX8_fitLaid cX8_fitLaid 4 none ∈ zGW := List.mem_filter.mpr ⟨List.mem_of_getElem? (i := 452) (by decide +kernel), by decide +kernel⟩
theorem mm_453 : Cond.methodLink RX8 342 yX8_fitAll ∈ zGW := List.mem_filter.mpr ⟨List.mem_of_getElem? (i := 453) (by decide +kernel), by decide +kernel⟩
theorem mm_455 : Cond.instanceMethod yX8_fitAll ∈ zGW := List.mem_filter.mpr ⟨List.mem_of_getElem? (i := 455) (by decide +kernel), by decide +kernel⟩
theorem mm_456 : Cond.code yX8_fitAll cX8_fitAll 6 (some .int) ∈ zGW := List.mem_filter.mpr ⟨List.mem_of_getElem? (i := 456) (by decide +kernel), by decide +kernel⟩
theorem mm_457 : Cond.methodLink RX8 348 yX8_fitAlone ∈ zGW := List.mem_filter.mpr ⟨List.mem_of_getElem? (i := 457) (by decide +kernel), by decide +kernel⟩
theorem mm_459 : Cond.instanceMethod yX8_fitAlone ∈ zGW := List.mem_filter.mpr ⟨List.mem_of_getElem? (i := 459) (by decide +kernel), by decide +kernel⟩
theorem mm_460 : Cond.code yX8_fitAlone cX8_fitAlone 6 (some .int) ∈ zGW := List.mem_filter.mpr ⟨List.mem_of_getElem? (i := 460) (by decide +kernel), by decide +kernel⟩
theorem mm_461 : Cond.methodLink RX8 154 yX2_nodeAt ∈ zGW := List.mem_filter.mpr ⟨List.mem_of_getElem? (i := 461) (by decide +kernel), by decide +kernel⟩
theorem mm_462 : Cond.instanceMethod yX2_nodeAt ∈ zGW := List.mem_filter.mpr ⟨List.mem_of_getElem? (i := 462) (by decide +kernel), by decide +kernel⟩
theorem mm_463 : Cond.selects RX2 yX2_nodeAt yX2_nodeAt ∈ zGW := List.mem_filter.mpr ⟨List.mem_of_getElem? (i := 463) (by decide +kernel), by decide +kernel⟩
theorem mm_464 : Cond.code yX2_nodeAt cX2_nodeAt 3 (some .int) ∈ zGW := List.mem_filter.mpr ⟨List.mem_of_getElem? (i := 464) (by decide +kernel), by decide +kernel⟩
theorem mm_465 : Cond.methodLink RX8 351 yX3_whoBelow ∈ zGW := List.mem_filter.mpr ⟨List.mem_of_getElem? (i := 465) (by decide +kernel), by decide +kernel⟩
theorem mm_466 : Cond.instanceMethod yX3_whoBelow ∈ zGW := List.mem_filter.mpr ⟨List.mem_of_getElem? (i := 466) (by decide +kernel), by decide +kernel⟩
theorem mm_467 : Cond.selects RX3 yX3_whoBelow yX3_whoBelow ∈ zGW := List.mem_filter.mpr ⟨List.mem_of_getElem? (i := 467) (by decide +kernel), by decide +kernel⟩
theorem mm_468 : Cond.code yX3_whoBelow cX3_whoBelow 2 (some .int) ∈ zGW := List.mem_filter.mpr ⟨List.mem_of_getElem? (i := 468) (by decide +kernel), by decide +kernel⟩
theorem mm_469 : Cond.methodLink RX8 354 yX4_isOf ∈ zGW := List.mem_filter.mpr ⟨List.mem_of_getElem? (i := 469) (by decide +kernel), by decide +kernel⟩
theorem mm_470 : Cond.instanceMethod yX4_isOf ∈ zGW := List.mem_filter.mpr ⟨List.mem_of_getElem? (i := 470) (by decide +kernel), by decide +kernel⟩
theorem mm_471 : Cond.selects RX4 yX4_isOf yX4_isOf ∈ zGW := List.mem_filter.mpr ⟨List.mem_of_getElem? (i := 471) (by decide +kernel), by decide +kernel⟩
theorem mm_472 : Cond.code yX4_isOf cX4_isOf 3 (some .boolean) ∈ zGW := List.mem_filter.mpr ⟨List.mem_of_getElem? (i := 472) (by decide +kernel), by decide +kernel⟩
theorem mm_473 : Cond.methodLink RL 104 yX8_givings ∈ zGW := List.mem_filter.mpr ⟨List.mem_of_getElem? (i := 473) (by decide +kernel), by decide +kernel⟩
theorem mm_474 : Cond.instanceMethod yX8_givings ∈ zGW := List.mem_filter.mpr ⟨List.mem_of_getElem? (i := 474) (by decide +kernel), by decide +kernel⟩
theorem mm_475 : Cond.selects RX8 yX8_givings yX8_givings ∈ zGW := List.mem_filter.mpr ⟨List.mem_of_getElem? (i := 475) (by decide +kernel), by decide +kernel⟩
theorem mm_476 : Cond.code yX8_givings cX8_givings 3 (some .long) ∈ zGW := List.mem_filter.mpr ⟨List.mem_of_getElem? (i := 476) (by decide +kernel), by decide +kernel⟩
theorem mm_477 : Cond.constantLong RX8 213 (-1) ∈ zGW := List.mem_filter.mpr ⟨List.mem_of_getElem? (i := 477) (by decide +kernel), by decide +kernel⟩
theorem mm_478 : Cond.methodLink RX8 215 yX6_number ∈ zGW := List.mem_filter.mpr ⟨List.mem_of_getElem? (i := 478) (by decide +kernel), by decide +kernel⟩
theorem mm_479 : Cond.instanceMethod yX6_number ∈ zGW := List.mem_filter.mpr ⟨List.mem_of_getElem? (i := 479) (by decide +kernel), by decide +kernel⟩
theorem mm_480 : Cond.selects RX6 yX6_number yX6_number ∈ zGW := List.mem_filter.mpr ⟨List.mem_of_getElem? (i := 480) (by decide +kernel), by decide +kernel⟩
theorem mm_481 : Cond.code yX6_number cX6_number 4 (some .long) ∈ zGW := List.mem_filter.mpr ⟨List.mem_of_getElem? (i := 481) (by decide +kernel), by decide +kernel⟩
theorem mm_482 : Cond.methodLink RX6 54 yX6_giveTo ∈ zGW := List.mem_filter.mpr ⟨List.mem_of_getElem? (i := 482) (by decide +kernel), by decide +kernel⟩
theorem mm_484 : Cond.instanceMethod yX6_giveTo ∈ zGW := List.mem_filter.mpr ⟨List.mem_of_getElem? (i := 484) (by decide +kernel), by decide +kernel⟩
theorem mm_485 : Cond.code yX6_giveTo cX6_giveTo 4 none ∈ zGW := List.mem_filter.mpr ⟨List.mem_of_getElem? (i := 485) (by decide +kernel), by decide +kernel⟩
theorem mm_486 : Cond.methodLink RL 110 yX8_mustBe ∈ zGW := List.mem_filter.mpr ⟨List.mem_of_getElem? (i := 486) (by decide +kernel), by decide +kernel⟩
theorem mm_487 : Cond.instanceMethod yX8_mustBe ∈ zGW := List.mem_filter.mpr ⟨List.mem_of_getElem? (i := 487) (by decide +kernel), by decide +kernel⟩
theorem mm_488 : Cond.selects RX8 yX8_mustBe yX8_mustBe ∈ zGW := List.mem_filter.mpr ⟨List.mem_of_getElem? (i := 488) (by decide +kernel), by decide +kernel⟩
theorem mm_489 : Cond.code yX8_mustBe cX8_mustBe 6 (some .int) ∈ zGW := List.mem_filter.mpr ⟨List.mem_of_getElem? (i := 489) (by decide +kernel), by decide +kernel⟩
theorem mm_490 : Cond.methodLink RX8 224 yX6_weigh ∈ zGW := List.mem_filter.mpr ⟨List.mem_of_getElem? (i := 490) (by decide +kernel), by decide +kernel⟩
theorem mm_491 : Cond.instanceMethod yX6_weigh ∈ zGW := List.mem_filter.mpr ⟨List.mem_of_getElem? (i := 491) (by decide +kernel), by decide +kernel⟩
theorem mm_492 : Cond.selects RX6 yX6_weigh yX6_weigh ∈ zGW := List.mem_filter.mpr ⟨List.mem_of_getElem? (i := 492) (by decide +kernel), by decide +kernel⟩
theorem mm_493 : Cond.code yX6_weigh cX6_weigh 3 none ∈ zGW := List.mem_filter.mpr ⟨List.mem_of_getElem? (i := 493) (by decide +kernel), by decide +kernel⟩
theorem mm_494 : Cond.methodLink RX6 44 yX6_weighSet ∈ zGW := List.mem_filter.mpr ⟨List.mem_of_getElem? (i := 494) (by decide +kernel), by decide +kernel⟩
theorem mm_496 : Cond.instanceMethod yX6_weighSet ∈ zGW := List.mem_filter.mpr ⟨List.mem_of_getElem? (i := 496) (by decide +kernel), by decide +kernel⟩
theorem mm_497 : Cond.code yX6_weighSet cX6_weighSet 4 none ∈ zGW := List.mem_filter.mpr ⟨List.mem_of_getElem? (i := 497) (by decide +kernel), by decide +kernel⟩
theorem mm_498 : Cond.methodLink RX6 48 yJ6_bitCount_0f7a4 ∈ zGW := List.mem_filter.mpr ⟨List.mem_of_getElem? (i := 498) (by decide +kernel), by decide +kernel⟩
theorem mm_499 : Cond.static yJ6_bitCount_0f7a4 ∈ zGW := List.mem_filter.mpr ⟨List.mem_of_getElem? (i := 499) (by decide +kernel), by decide +kernel⟩
theorem mm_500 : Cond.code yJ6_bitCount_0f7a4 cJ6_bitCount_0f7a4 1 (some .int) ∈ zGW := List.mem_filter.mpr ⟨List.mem_of_getElem? (i := 500) (by decide +kernel), by decide +kernel⟩
theorem mm_501 : Cond.constant RJ6 265 (1431655765) ∈ zGW := List.mem_filter.mpr ⟨List.mem_of_getElem? (i := 501) (by decide +kernel), by decide +kernel⟩
theorem mm_502 : Cond.constant RJ6 266 (858993459) ∈ zGW := List.mem_filter.mpr ⟨List.mem_of_getElem? (i := 502) (by decide +kernel), by decide +kernel⟩
theorem mm_503 : Cond.constant RJ6 267 (252645135) ∈ zGW := List.mem_filter.mpr ⟨List.mem_of_getElem? (i := 503) (by decide +kernel), by decide +kernel⟩
theorem mm_504 : Cond.methodLink RX8 230 yJ6_bitCount_0f7a4 ∈ zGW := List.mem_filter.mpr ⟨List.mem_of_getElem? (i := 504) (by decide +kernel), by decide +kernel⟩
theorem mm_505 : Cond.methodLink RL 116 yX8_tooFew ∈ zGW := List.mem_filter.mpr ⟨List.mem_of_getElem? (i := 505) (by decide +kernel), by decide +kernel⟩
theorem mm_506 : Cond.instanceMethod yX8_tooFew ∈ zGW := List.mem_filter.mpr ⟨List.mem_of_getElem? (i := 506) (by decide +kernel), by decide +kernel⟩
theorem mm_507 : Cond.selects RX8 yX8_tooFew yX8_tooFew ∈ zGW := List.mem_filter.mpr ⟨List.mem_of_getElem? (i := 507) (by decide +kernel), by decide +kernel⟩
theorem mm_508 : Cond.code yX8_tooFew cX8_tooFew 3 (some .int) ∈ zGW := List.mem_filter.mpr ⟨List.mem_of_getElem? (i := 508) (by decide +kernel), by decide +kernel⟩
theorem mm_509 : Cond.methodLink RL 66 yX8_steps ∈ zGW := List.mem_filter.mpr ⟨List.mem_of_getElem? (i := 509) (by decide +kernel), by decide +kernel⟩
theorem mm_510 : Cond.instanceMethod yX8_steps ∈ zGW := List.mem_filter.mpr ⟨List.mem_of_getElem? (i := 510) (by decide +kernel), by decide +kernel⟩
theorem mm_511 : Cond.selects RX8 yX8_steps yX8_steps ∈ zGW := List.mem_filter.mpr ⟨List.mem_of_getElem? (i := 511) (by decide +kernel), by decide +kernel⟩
theorem mm_512 : Cond.code yX8_steps cX8_steps 5 (some .int) ∈ zGW := List.mem_filter.mpr ⟨List.mem_of_getElem? (i := 512) (by decide +kernel), by decide +kernel⟩
theorem mm_513 : Cond.methodLink RX8 241 yX6_stepByStep ∈ zGW := List.mem_filter.mpr ⟨List.mem_of_getElem? (i := 513) (by decide +kernel), by decide +kernel⟩
theorem mm_514 : Cond.instanceMethod yX6_stepByStep ∈ zGW := List.mem_filter.mpr ⟨List.mem_of_getElem? (i := 514) (by decide +kernel), by decide +kernel⟩
theorem mm_515 : Cond.selects RX6 yX6_stepByStep yX6_stepByStep ∈ zGW := List.mem_filter.mpr ⟨List.mem_of_getElem? (i := 515) (by decide +kernel), by decide +kernel⟩
theorem mm_516 : Cond.code yX6_stepByStep cX6_stepByStep 4 (some .int) ∈ zGW := List.mem_filter.mpr ⟨List.mem_of_getElem? (i := 516) (by decide +kernel), by decide +kernel⟩
theorem mm_517 : Cond.methodLink RX6 64 yX6_findSome ∈ zGW := List.mem_filter.mpr ⟨List.mem_of_getElem? (i := 517) (by decide +kernel), by decide +kernel⟩
theorem mm_519 : Cond.instanceMethod yX6_findSome ∈ zGW := List.mem_filter.mpr ⟨List.mem_of_getElem? (i := 519) (by decide +kernel), by decide +kernel⟩
theorem mm_520 : Cond.code yX6_findSome cX6_findSome 6 (some .boolean) ∈ zGW := List.mem_filter.mpr ⟨List.mem_of_getElem? (i := 520) (by decide +kernel), by decide +kernel⟩
theorem mm_521 : Cond.methodLink RX8 248 yX6_left ∈ zGW := List.mem_filter.mpr ⟨List.mem_of_getElem? (i := 521) (by decide +kernel), by decide +kernel⟩
theorem mm_522 : Cond.instanceMethod yX6_left ∈ zGW := List.mem_filter.mpr ⟨List.mem_of_getElem? (i := 522) (by decide +kernel), by decide +kernel⟩
theorem mm_523 : Cond.selects RX6 yX6_left yX6_left ∈ zGW := List.mem_filter.mpr ⟨List.mem_of_getElem? (i := 523) (by decide +kernel), by decide +kernel⟩
theorem mm_524 : Cond.code yX6_left cX6_left 2 (some .int) ∈ zGW := List.mem_filter.mpr ⟨List.mem_of_getElem? (i := 524) (by decide +kernel), by decide +kernel⟩
theorem mm_526 : Cond.methodLink RL 69 yX8_safe ∈ zGW := List.mem_filter.mpr ⟨List.mem_of_getElem? (i := 526) (by decide +kernel), by decide +kernel⟩
theorem mm_527 : Cond.instanceMethod yX8_safe ∈ zGW := List.mem_filter.mpr ⟨List.mem_of_getElem? (i := 527) (by decide +kernel), by decide +kernel⟩
theorem mm_528 : Cond.selects RX8 yX8_safe yX8_safe ∈ zGW := List.mem_filter.mpr ⟨List.mem_of_getElem? (i := 528) (by decide +kernel), by decide +kernel⟩
theorem mm_529 : Cond.code yX8_safe cX8_safe 4 (some .int) ∈ zGW := List.mem_filter.mpr ⟨List.mem_of_getElem? (i := 529) (by decide +kernel), by decide +kernel⟩
theorem mm_530 : Cond.methodLink RX8 251 yX8_isBar ∈ zGW := List.mem_filter.mpr ⟨List.mem_of_getElem? (i := 530) (by decide +kernel), by decide +kernel⟩
theorem mm_531 : Cond.static yX8_isBar ∈ zGW := List.mem_filter.mpr ⟨List.mem_of_getElem? (i := 531) (by decide +kernel), by decide +kernel⟩
theorem mm_532 : Cond.code yX8_isBar cX8_isBar 1 (some .boolean) ∈ zGW := List.mem_filter.mpr ⟨List.mem_of_getElem? (i := 532) (by decide +kernel), by decide +kernel⟩
theorem mm_533 : Cond.methodLink RX8 254 yX8_safeLines ∈ zGW := List.mem_filter.mpr ⟨List.mem_of_getElem? (i := 533) (by decide +kernel), by decide +kernel⟩
theorem mm_535 : Cond.instanceMethod yX8_safeLines ∈ zGW := List.mem_filter.mpr ⟨List.mem_of_getElem? (i := 535) (by decide +kernel), by decide +kernel⟩
theorem mm_536 : Cond.code yX8_safeLines cX8_safeLines 7 (some .int) ∈ zGW := List.mem_filter.mpr ⟨List.mem_of_getElem? (i := 536) (by decide +kernel), by decide +kernel⟩
theorem mm_537 : Cond.methodLink RX8 360 Lib.Math.max.name ∈ zGW := List.mem_filter.mpr ⟨List.mem_of_getElem? (i := 537) (by decide +kernel), by decide +kernel⟩
theorem mm_538 : Cond.static Lib.Math.max.name ∈ zGW := List.mem_filter.mpr ⟨List.mem_of_getElem? (i := 538) (by decide +kernel), by decide +kernel⟩
theorem mm_539 : Cond.code Lib.Math.max.name Lib.Math.max.code 2 (some .int) ∈ zGW := List.mem_filter.mpr ⟨List.mem_of_getElem? (i := 539) (by decide +kernel), by decide +kernel⟩
theorem mm_540 : Cond.methodLink RL 129 yL_town ∈ zGW := List.mem_filter.mpr ⟨List.mem_of_getElem? (i := 540) (by decide +kernel), by decide +kernel⟩
theorem mm_541 : Cond.static yL_town ∈ zGW := List.mem_filter.mpr ⟨List.mem_of_getElem? (i := 541) (by decide +kernel), by decide +kernel⟩
theorem mm_542 : Cond.code yL_town cL_town 12 (some .int) ∈ zGW := List.mem_filter.mpr ⟨List.mem_of_getElem? (i := 542) (by decide +kernel), by decide +kernel⟩
theorem mm_543 : Cond.methodLink RL 7 yX8_upper ∈ zGW := List.mem_filter.mpr ⟨List.mem_of_getElem? (i := 543) (by decide +kernel), by decide +kernel⟩
theorem mm_544 : Cond.instanceMethod yX8_upper ∈ zGW := List.mem_filter.mpr ⟨List.mem_of_getElem? (i := 544) (by decide +kernel), by decide +kernel⟩
theorem mm_545 : Cond.selects RX8 yX8_upper yX8_upper ∈ zGW := List.mem_filter.mpr ⟨List.mem_of_getElem? (i := 545) (by decide +kernel), by decide +kernel⟩
theorem mm_546 : Cond.code yX8_upper cX8_upper 4 (some .boolean) ∈ zGW := List.mem_filter.mpr ⟨List.mem_of_getElem? (i := 546) (by decide +kernel), by decide +kernel⟩
theorem mm_547 : Cond.methodLink RX8 83 yX8_isColumn ∈ zGW := List.mem_filter.mpr ⟨List.mem_of_getElem? (i := 547) (by decide +kernel), by decide +kernel⟩
theorem mm_548 : Cond.methodLink RX8 91 yX3_hang ∈ zGW := List.mem_filter.mpr ⟨List.mem_of_getElem? (i := 548) (by decide +kernel), by decide +kernel⟩
theorem mm_549 : Cond.instanceMethod yX3_hang ∈ zGW := List.mem_filter.mpr ⟨List.mem_of_getElem? (i := 549) (by decide +kernel), by decide +kernel⟩
theorem mm_550 : Cond.selects RX3 yX3_hang yX3_hang ∈ zGW := List.mem_filter.mpr ⟨List.mem_of_getElem? (i := 550) (by decide +kernel), by decide +kernel⟩
theorem mm_551 : Cond.code yX3_hang cX3_hang 4 none ∈ zGW := List.mem_filter.mpr ⟨List.mem_of_getElem? (i := 551) (by decide +kernel), by decide +kernel⟩
theorem mm_552 : Cond.methodLink RX3 35 yX3_climb ∈ zGW := List.mem_filter.mpr ⟨List.mem_of_getElem? (i := 552) (by decide +kernel), by decide +kernel⟩
theorem mm_554 : Cond.instanceMethod yX3_climb ∈ zGW := List.mem_filter.mpr ⟨List.mem_of_getElem? (i := 554) (by decide +kernel), by decide +kernel⟩
theorem mm_555 : Cond.code yX3_climb cX3_climb 6 none ∈ zGW := List.mem_filter.mpr ⟨List.mem_of_getElem? (i := 555) (by decide +kernel), by decide +kernel⟩
theorem mm_556 : Cond.methodLink RX8 95 yX0_forget ∈ zGW := List.mem_filter.mpr ⟨List.mem_of_getElem? (i := 556) (by decide +kernel), by decide +kernel⟩
theorem mm_557 : Cond.instanceMethod yX0_forget ∈ zGW := List.mem_filter.mpr ⟨List.mem_of_getElem? (i := 557) (by decide +kernel), by decide +kernel⟩
theorem mm_558 : Cond.selects RX0 yX0_forget yX0_forget ∈ zGW := List.mem_filter.mpr ⟨List.mem_of_getElem? (i := 558) (by decide +kernel), by decide +kernel⟩
theorem mm_559 : Cond.code yX0_forget cX0_forget 1 none ∈ zGW := List.mem_filter.mpr ⟨List.mem_of_getElem? (i := 559) (by decide +kernel), by decide +kernel⟩
theorem mm_560 : Cond.methodLink RL 13 yX8_person ∈ zGW := List.mem_filter.mpr ⟨List.mem_of_getElem? (i := 560) (by decide +kernel), by decide +kernel⟩
theorem mm_561 : Cond.instanceMethod yX8_person ∈ zGW := List.mem_filter.mpr ⟨List.mem_of_getElem? (i := 561) (by decide +kernel), by decide +kernel⟩
theorem mm_562 : Cond.selects RX8 yX8_person yX8_person ∈ zGW := List.mem_filter.mpr ⟨List.mem_of_getElem? (i := 562) (by decide +kernel), by decide +kernel⟩
theorem mm_563 : Cond.code yX8_person cX8_person 6 (some .int) ∈ zGW := List.mem_filter.mpr ⟨List.mem_of_getElem? (i := 563) (by decide +kernel), by decide +kernel⟩
theorem mm_564 : Cond.methodLink RX8 101 yX8_isValue ∈ zGW := List.mem_filter.mpr ⟨List.mem_of_getElem? (i := 564) (by decide +kernel), by decide +kernel⟩
theorem mm_565 : Cond.static yX8_isValue ∈ zGW := List.mem_filter.mpr ⟨List.mem_of_getElem? (i := 565) (by decide +kernel), by decide +kernel⟩
theorem mm_566 : Cond.code yX8_isValue cX8_isValue 1 (some .boolean) ∈ zGW := List.mem_filter.mpr ⟨List.mem_of_getElem? (i := 566) (by decide +kernel), by decide +kernel⟩
theorem mm_567 : Cond.methodLink RX8 104 yX3_settle ∈ zGW := List.mem_filter.mpr ⟨List.mem_of_getElem? (i := 567) (by decide +kernel), by decide +kernel⟩
theorem mm_568 : Cond.instanceMethod yX3_settle ∈ zGW := List.mem_filter.mpr ⟨List.mem_of_getElem? (i := 568) (by decide +kernel), by decide +kernel⟩
theorem mm_569 : Cond.selects RX3 yX3_settle yX3_settle ∈ zGW := List.mem_filter.mpr ⟨List.mem_of_getElem? (i := 569) (by decide +kernel), by decide +kernel⟩
theorem mm_570 : Cond.code yX3_settle cX3_settle 3 none ∈ zGW := List.mem_filter.mpr ⟨List.mem_of_getElem? (i := 570) (by decide +kernel), by decide +kernel⟩
theorem mm_572 : Cond.methodLink RX8 107 yX8_judgeAll ∈ zGW := List.mem_filter.mpr ⟨List.mem_of_getElem? (i := 572) (by decide +kernel), by decide +kernel⟩
theorem mm_574 : Cond.instanceMethod yX8_judgeAll ∈ zGW := List.mem_filter.mpr ⟨List.mem_of_getElem? (i := 574) (by decide +kernel), by decide +kernel⟩
theorem mm_575 : Cond.code yX8_judgeAll cX8_judgeAll 3 none ∈ zGW := List.mem_filter.mpr ⟨List.mem_of_getElem? (i := 575) (by decide +kernel), by decide +kernel⟩
theorem mm_576 : Cond.methodLink RX8 195 yX8_spell ∈ zGW := List.mem_filter.mpr ⟨List.mem_of_getElem? (i := 576) (by decide +kernel), by decide +kernel⟩
theorem mm_578 : Cond.instanceMethod yX8_spell ∈ zGW := List.mem_filter.mpr ⟨List.mem_of_getElem? (i := 578) (by decide +kernel), by decide +kernel⟩
theorem mm_579 : Cond.code yX8_spell cX8_spell 3 none ∈ zGW := List.mem_filter.mpr ⟨List.mem_of_getElem? (i := 579) (by decide +kernel), by decide +kernel⟩
theorem mm_580 : Cond.methodLink RX8 198 yX4_judge ∈ zGW := List.mem_filter.mpr ⟨List.mem_of_getElem? (i := 580) (by decide +kernel), by decide +kernel⟩
theorem mm_581 : Cond.instanceMethod yX4_judge ∈ zGW := List.mem_filter.mpr ⟨List.mem_of_getElem? (i := 581) (by decide +kernel), by decide +kernel⟩
theorem mm_582 : Cond.selects RX4 yX4_judge yX4_judge ∈ zGW := List.mem_filter.mpr ⟨List.mem_of_getElem? (i := 582) (by decide +kernel), by decide +kernel⟩
theorem mm_583 : Cond.code yX4_judge cX4_judge 3 none ∈ zGW := List.mem_filter.mpr ⟨List.mem_of_getElem? (i := 583) (by decide +kernel), by decide +kernel⟩
theorem mm_584 : Cond.methodLink RX4 59 yX4_start ∈ zGW := List.mem_filter.mpr ⟨List.mem_of_getElem? (i := 584) (by decide +kernel), by decide +kernel⟩
theorem mm_586 : Cond.instanceMethod yX4_start ∈ zGW := List.mem_filter.mpr ⟨List.mem_of_getElem? (i := 586) (by decide +kernel), by decide +kernel⟩
theorem mm_587 : Cond.code yX4_start cX4_start 1 none ∈ zGW := List.mem_filter.mpr ⟨List.mem_of_getElem? (i := 587) (by decide +kernel), by decide +kernel⟩
theorem mm_588 : Cond.methodLink RX4 62 yX4_anyOf ∈ zGW := List.mem_filter.mpr ⟨List.mem_of_getElem? (i := 588) (by decide +kernel), by decide +kernel⟩
theorem mm_590 : Cond.instanceMethod yX4_anyOf ∈ zGW := List.mem_filter.mpr ⟨List.mem_of_getElem? (i := 590) (by decide +kernel), by decide +kernel⟩
theorem mm_591 : Cond.code yX4_anyOf cX4_anyOf 6 (some .boolean) ∈ zGW := List.mem_filter.mpr ⟨List.mem_of_getElem? (i := 591) (by decide +kernel), by decide +kernel⟩
theorem mm_592 : Cond.methodLink RX4 74 yX4_allOf ∈ zGW := List.mem_filter.mpr ⟨List.mem_of_getElem? (i := 592) (by decide +kernel), by decide +kernel⟩
theorem mm_594 : Cond.instanceMethod yX4_allOf ∈ zGW := List.mem_filter.mpr ⟨List.mem_of_getElem? (i := 594) (by decide +kernel), by decide +kernel⟩
theorem mm_595 : Cond.code yX4_allOf cX4_allOf 6 (some .boolean) ∈ zGW := List.mem_filter.mpr ⟨List.mem_of_getElem? (i := 595) (by decide +kernel), by decide +kernel⟩
theorem mm_596 : Cond.methodLink RX4 77 yX4_piece ∈ zGW := List.mem_filter.mpr ⟨List.mem_of_getElem? (i := 596) (by decide +kernel), by decide +kernel⟩
theorem mm_598 : Cond.instanceMethod yX4_piece ∈ zGW := List.mem_filter.mpr ⟨List.mem_of_getElem? (i := 598) (by decide +kernel), by decide +kernel⟩
theorem mm_599 : Cond.code yX4_piece cX4_piece 6 (some .boolean) ∈ zGW := List.mem_filter.mpr ⟨List.mem_of_getElem? (i := 599) (by decide +kernel), by decide +kernel⟩
theorem mm_600 : Cond.methodLink RX4 70 yX4_next ∈ zGW := List.mem_filter.mpr ⟨List.mem_of_getElem? (i := 600) (by decide +kernel), by decide +kernel⟩
theorem mm_602 : Cond.instanceMethod yX4_next ∈ zGW := List.mem_filter.mpr ⟨List.mem_of_getElem? (i := 602) (by decide +kernel), by decide +kernel⟩
theorem mm_603 : Cond.code yX4_next cX4_next 1 (some .int) ∈ zGW := List.mem_filter.mpr ⟨List.mem_of_getElem? (i := 603) (by decide +kernel), by decide +kernel⟩
theorem mm_604 : Cond.methodLink RX4 80 yX4_opens ∈ zGW := List.mem_filter.mpr ⟨List.mem_of_getElem? (i := 604) (by decide +kernel), by decide +kernel⟩
theorem mm_606 : Cond.instanceMethod yX4_opens ∈ zGW := List.mem_filter.mpr ⟨List.mem_of_getElem? (i := 606) (by decide +kernel), by decide +kernel⟩
theorem mm_607 : Cond.code yX4_opens cX4_opens 2 (some .boolean) ∈ zGW := List.mem_filter.mpr ⟨List.mem_of_getElem? (i := 607) (by decide +kernel), by decide +kernel⟩
theorem mm_608 : Cond.methodLink RX4 66 yX4_fail ∈ zGW := List.mem_filter.mpr ⟨List.mem_of_getElem? (i := 608) (by decide +kernel), by decide +kernel⟩
theorem mm_610 : Cond.instanceMethod yX4_fail ∈ zGW := List.mem_filter.mpr ⟨List.mem_of_getElem? (i := 610) (by decide +kernel), by decide +kernel⟩
theorem mm_611 : Cond.code yX4_fail cX4_fail 2 none ∈ zGW := List.mem_filter.mpr ⟨List.mem_of_getElem? (i := 611) (by decide +kernel), by decide +kernel⟩
theorem mm_612 : Cond.methodLink RX4 84 yX4_expect ∈ zGW := List.mem_filter.mpr ⟨List.mem_of_getElem? (i := 612) (by decide +kernel), by decide +kernel⟩
theorem mm_614 : Cond.instanceMethod yX4_expect ∈ zGW := List.mem_filter.mpr ⟨List.mem_of_getElem? (i := 614) (by decide +kernel), by decide +kernel⟩
theorem mm_615 : Cond.code yX4_expect cX4_expect 2 none ∈ zGW := List.mem_filter.mpr ⟨List.mem_of_getElem? (i := 615) (by decide +kernel), by decide +kernel⟩
theorem mm_616 : Cond.methodLink RX4 87 yX4_sum ∈ zGW := List.mem_filter.mpr ⟨List.mem_of_getElem? (i := 616) (by decide +kernel), by decide +kernel⟩
theorem mm_618 : Cond.instanceMethod yX4_sum ∈ zGW := List.mem_filter.mpr ⟨List.mem_of_getElem? (i := 618) (by decide +kernel), by decide +kernel⟩
theorem mm_619 : Cond.code yX4_sum cX4_sum 7 (some .int) ∈ zGW := List.mem_filter.mpr ⟨List.mem_of_getElem? (i := 619) (by decide +kernel), by decide +kernel⟩
theorem mm_620 : Cond.methodLink RX4 91 yX4_product ∈ zGW := List.mem_filter.mpr ⟨List.mem_of_getElem? (i := 620) (by decide +kernel), by decide +kernel⟩
theorem mm_622 : Cond.instanceMethod yX4_product ∈ zGW := List.mem_filter.mpr ⟨List.mem_of_getElem? (i := 622) (by decide +kernel), by decide +kernel⟩
theorem mm_623 : Cond.code yX4_product cX4_product 7 (some .int) ∈ zGW := List.mem_filter.mpr ⟨List.mem_of_getElem? (i := 623) (by decide +kernel), by decide +kernel⟩
theorem mm_624 : Cond.methodLink RX4 94 yX4_factor ∈ zGW := List.mem_filter.mpr ⟨List.mem_of_getElem? (i := 624) (by decide +kernel), by decide +kernel⟩
theorem mm_626 : Cond.instanceMethod yX4_factor ∈ zGW := List.mem_filter.mpr ⟨List.mem_of_getElem? (i := 626) (by decide +kernel), by decide +kernel⟩
theorem mm_627 : Cond.code yX4_factor cX4_factor 5 (some .int) ∈ zGW := List.mem_filter.mpr ⟨List.mem_of_getElem? (i := 627) (by decide +kernel), by decide +kernel⟩
theorem mm_628 : Cond.methodLink RX4 97 yX4_isDigit ∈ zGW := List.mem_filter.mpr ⟨List.mem_of_getElem? (i := 628) (by decide +kernel), by decide +kernel⟩
theorem mm_629 : Cond.static yX4_isDigit ∈ zGW := List.mem_filter.mpr ⟨List.mem_of_getElem? (i := 629) (by decide +kernel), by decide +kernel⟩
theorem mm_630 : Cond.code yX4_isDigit cX4_isDigit 1 (some .boolean) ∈ zGW := List.mem_filter.mpr ⟨List.mem_of_getElem? (i := 630) (by decide +kernel), by decide +kernel⟩
theorem mm_631 : Cond.methodLink RX4 100 yX4_numeral ∈ zGW := List.mem_filter.mpr ⟨List.mem_of_getElem? (i := 631) (by decide +kernel), by decide +kernel⟩
theorem mm_633 : Cond.instanceMethod yX4_numeral ∈ zGW := List.mem_filter.mpr ⟨List.mem_of_getElem? (i := 633) (by decide +kernel), by decide +kernel⟩
theorem mm_634 : Cond.code yX4_numeral cX4_numeral 3 (some .int) ∈ zGW := List.mem_filter.mpr ⟨List.mem_of_getElem? (i := 634) (by decide +kernel), by decide +kernel⟩
theorem mm_635 : Cond.methodLink RX4 103 yX4_letterOf ∈ zGW := List.mem_filter.mpr ⟨List.mem_of_getElem? (i := 635) (by decide +kernel), by decide +kernel⟩
theorem mm_636 : Cond.static yX4_letterOf ∈ zGW := List.mem_filter.mpr ⟨List.mem_of_getElem? (i := 636) (by decide +kernel), by decide +kernel⟩
theorem mm_637 : Cond.code yX4_letterOf cX4_letterOf 1 (some .int) ∈ zGW := List.mem_filter.mpr ⟨List.mem_of_getElem? (i := 637) (by decide +kernel), by decide +kernel⟩
theorem mm_638 : Cond.methodLink RL 17 yL_up ∈ zGW := List.mem_filter.mpr ⟨List.mem_of_getElem? (i := 638) (by decide +kernel), by decide +kernel⟩
theorem mm_639 : Cond.static yL_up ∈ zGW := List.mem_filter.mpr ⟨List.mem_of_getElem? (i := 639) (by decide +kernel), by decide +kernel⟩
theorem mm_640 : Cond.code yL_up cL_up 5 (some .int) ∈ zGW := List.mem_filter.mpr ⟨List.mem_of_getElem? (i := 640) (by decide +kernel), by decide +kernel⟩
theorem mm_641 : Cond.methodLink RL 138 yL_act ∈ zGW := List.mem_filter.mpr ⟨List.mem_of_getElem? (i := 641) (by decide +kernel), by decide +kernel⟩
theorem mm_642 : Cond.static yL_act ∈ zGW := List.mem_filter.mpr ⟨List.mem_of_getElem? (i := 642) (by decide +kernel), by decide +kernel⟩
theorem mm_643 : Cond.code yL_act cL_act 7 (some .int) ∈ zGW := List.mem_filter.mpr ⟨List.mem_of_getElem? (i := 643) (by decide +kernel), by decide +kernel⟩
theorem mm_644 : Cond.methodLink RL 37 yX8_cut ∈ zGW := List.mem_filter.mpr ⟨List.mem_of_getElem? (i := 644) (by decide +kernel), by decide +kernel⟩
theorem mm_645 : Cond.instanceMethod yX8_cut ∈ zGW := List.mem_filter.mpr ⟨List.mem_of_getElem? (i := 645) (by decide +kernel), by decide +kernel⟩
theorem mm_646 : Cond.selects RX8 yX8_cut yX8_cut ∈ zGW := List.mem_filter.mpr ⟨List.mem_of_getElem? (i := 646) (by decide +kernel), by decide +kernel⟩
theorem mm_647 : Cond.code yX8_cut cX8_cut 3 (some .boolean) ∈ zGW := List.mem_filter.mpr ⟨List.mem_of_getElem? (i := 647) (by decide +kernel), by decide +kernel⟩
theorem mm_648 : Cond.methodLink RL 41 yX8_swap ∈ zGW := List.mem_filter.mpr ⟨List.mem_of_getElem? (i := 648) (by decide +kernel), by decide +kernel⟩
theorem mm_649 : Cond.instanceMethod yX8_swap ∈ zGW := List.mem_filter.mpr ⟨List.mem_of_getElem? (i := 649) (by decide +kernel), by decide +kernel⟩
theorem mm_650 : Cond.selects RX8 yX8_swap yX8_swap ∈ zGW := List.mem_filter.mpr ⟨List.mem_of_getElem? (i := 650) (by decide +kernel), by decide +kernel⟩
theorem mm_651 : Cond.code yX8_swap cX8_swap 5 (some .boolean) ∈ zGW := List.mem_filter.mpr ⟨List.mem_of_getElem? (i := 651) (by decide +kernel), by decide +kernel⟩
theorem mm_652 : Cond.methodLink RX8 157 yX2_exchange ∈ zGW := List.mem_filter.mpr ⟨List.mem_of_getElem? (i := 652) (by decide +kernel), by decide +kernel⟩
theorem mm_653 : Cond.instanceMethod yX2_exchange ∈ zGW := List.mem_filter.mpr ⟨List.mem_of_getElem? (i := 653) (by decide +kernel), by decide +kernel⟩
theorem mm_654 : Cond.selects RX2 yX2_exchange yX2_exchange ∈ zGW := List.mem_filter.mpr ⟨List.mem_of_getElem? (i := 654) (by decide +kernel), by decide +kernel⟩
theorem mm_655 : Cond.code yX2_exchange cX2_exchange 5 none ∈ zGW := List.mem_filter.mpr ⟨List.mem_of_getElem? (i := 655) (by decide +kernel), by decide +kernel⟩
theorem mm_656 : Cond.methodLink RX2 39 yX2_nodeAt ∈ zGW := List.mem_filter.mpr ⟨List.mem_of_getElem? (i := 656) (by decide +kernel), by decide +kernel⟩
theorem mm_657 : Cond.methodLink RX2 43 yX2_put ∈ zGW := List.mem_filter.mpr ⟨List.mem_of_getElem? (i := 657) (by decide +kernel), by decide +kernel⟩
theorem mm_658 : Cond.methodLink RL 45 yX8_show ∈ zGW := List.mem_filter.mpr ⟨List.mem_of_getElem? (i := 658) (by decide +kernel), by decide +kernel⟩
theorem mm_659 : Cond.instanceMethod yX8_show ∈ zGW := List.mem_filter.mpr ⟨List.mem_of_getElem? (i := 659) (by decide +kernel), by decide +kernel⟩
theorem mm_660 : Cond.selects RX8 yX8_show yX8_show ∈ zGW := List.mem_filter.mpr ⟨List.mem_of_getElem? (i := 660) (by decide +kernel), by decide +kernel⟩
theorem mm_661 : Cond.code yX8_show cX8_show 3 (some .boolean) ∈ zGW := List.mem_filter.mpr ⟨List.mem_of_getElem? (i := 661) (by decide +kernel), by decide +kernel⟩
theorem mm_662 : Cond.methodLink RL 49 yX8_link ∈ zGW := List.mem_filter.mpr ⟨List.mem_of_getElem? (i := 662) (by decide +kernel), by decide +kernel⟩
theorem mm_663 : Cond.instanceMethod yX8_link ∈ zGW := List.mem_filter.mpr ⟨List.mem_of_getElem? (i := 663) (by decide +kernel), by decide +kernel⟩
theorem mm_664 : Cond.selects RX8 yX8_link yX8_link ∈ zGW := List.mem_filter.mpr ⟨List.mem_of_getElem? (i := 664) (by decide +kernel), by decide +kernel⟩
theorem mm_665 : Cond.code yX8_link cX8_link 5 (some .int) ∈ zGW := List.mem_filter.mpr ⟨List.mem_of_getElem? (i := 665) (by decide +kernel), by decide +kernel⟩
theorem mm_666 : Cond.methodLink RX8 177 yX5_add ∈ zGW := List.mem_filter.mpr ⟨List.mem_of_getElem? (i := 666) (by decide +kernel), by decide +kernel⟩
theorem mm_667 : Cond.instanceMethod yX5_add ∈ zGW := List.mem_filter.mpr ⟨List.mem_of_getElem? (i := 667) (by decide +kernel), by decide +kernel⟩
theorem mm_668 : Cond.selects RX5 yX5_add yX5_add ∈ zGW := List.mem_filter.mpr ⟨List.mem_of_getElem? (i := 668) (by decide +kernel), by decide +kernel⟩
theorem mm_669 : Cond.code yX5_add cX5_add 3 none ∈ zGW := List.mem_filter.mpr ⟨List.mem_of_getElem? (i := 669) (by decide +kernel), by decide +kernel⟩
theorem mm_670 : Cond.constant RL 52 (1883111424) ∈ zGW := List.mem_filter.mpr ⟨List.mem_of_getElem? (i := 670) (by decide +kernel), by decide +kernel⟩
theorem mm_671 : Cond.methodLink RL 53 yX8_gossip ∈ zGW := List.mem_filter.mpr ⟨List.mem_of_getElem? (i := 671) (by decide +kernel), by decide +kernel⟩
theorem mm_672 : Cond.instanceMethod yX8_gossip ∈ zGW := List.mem_filter.mpr ⟨List.mem_of_getElem? (i := 672) (by decide +kernel), by decide +kernel⟩
theorem mm_673 : Cond.selects RX8 yX8_gossip yX8_gossip ∈ zGW := List.mem_filter.mpr ⟨List.mem_of_getElem? (i := 673) (by decide +kernel), by decide +kernel⟩
theorem mm_674 : Cond.code yX8_gossip cX8_gossip 7 (some .int) ∈ zGW := List.mem_filter.mpr ⟨List.mem_of_getElem? (i := 674) (by decide +kernel), by decide +kernel⟩
theorem mm_675 : Cond.methodLink RX8 179 yX4_write ∈ zGW := List.mem_filter.mpr ⟨List.mem_of_getElem? (i := 675) (by decide +kernel), by decide +kernel⟩
theorem mm_676 : Cond.instanceMethod yX4_write ∈ zGW := List.mem_filter.mpr ⟨List.mem_of_getElem? (i := 676) (by decide +kernel), by decide +kernel⟩
theorem mm_677 : Cond.selects RX4 yX4_write yX4_write ∈ zGW := List.mem_filter.mpr ⟨List.mem_of_getElem? (i := 677) (by decide +kernel), by decide +kernel⟩
theorem mm_678 : Cond.code yX4_write cX4_write 4 none ∈ zGW := List.mem_filter.mpr ⟨List.mem_of_getElem? (i := 678) (by decide +kernel), by decide +kernel⟩
theorem mm_679 : Cond.methodLink RX4 47 Lib.Math.min.name ∈ zGW := List.mem_filter.mpr ⟨List.mem_of_getElem? (i := 679) (by decide +kernel), by decide +kernel⟩
theorem mm_680 : Cond.static Lib.Math.min.name ∈ zGW := List.mem_filter.mpr ⟨List.mem_of_getElem? (i := 680) (by decide +kernel), by decide +kernel⟩
theorem mm_681 : Cond.code Lib.Math.min.name Lib.Math.min.code 2 (some .int) ∈ zGW := List.mem_filter.mpr ⟨List.mem_of_getElem? (i := 681) (by decide +kernel), by decide +kernel⟩
theorem mm_682 : Cond.methodLink RX4 53 yX7_byteAt ∈ zGW := List.mem_filter.mpr ⟨List.mem_of_getElem? (i := 682) (by decide +kernel), by decide +kernel⟩
theorem mm_683 : Cond.methodLink RX8 183 yX4_read ∈ zGW := List.mem_filter.mpr ⟨List.mem_of_getElem? (i := 683) (by decide +kernel), by decide +kernel⟩
theorem mm_684 : Cond.instanceMethod yX4_read ∈ zGW := List.mem_filter.mpr ⟨List.mem_of_getElem? (i := 684) (by decide +kernel), by decide +kernel⟩
theorem mm_685 : Cond.selects RX4 yX4_read yX4_read ∈ zGW := List.mem_filter.mpr ⟨List.mem_of_getElem? (i := 685) (by decide +kernel), by decide +kernel⟩
theorem mm_686 : Cond.code yX4_read cX4_read 1 none ∈ zGW := List.mem_filter.mpr ⟨List.mem_of_getElem? (i := 686) (by decide +kernel), by decide +kernel⟩
theorem mm_687 : Cond.methodLink RX8 192 yX4_tellOf ∈ zGW := List.mem_filter.mpr ⟨List.mem_of_getElem? (i := 687) (by decide +kernel), by decide +kernel⟩
theorem mm_688 : Cond.instanceMethod yX4_tellOf ∈ zGW := List.mem_filter.mpr ⟨List.mem_of_getElem? (i := 688) (by decide +kernel), by decide +kernel⟩
theorem mm_689 : Cond.selects RX4 yX4_tellOf yX4_tellOf ∈ zGW := List.mem_filter.mpr ⟨List.mem_of_getElem? (i := 689) (by decide +kernel), by decide +kernel⟩
theorem mm_690 : Cond.code yX4_tellOf cX4_tellOf 3 none ∈ zGW := List.mem_filter.mpr ⟨List.mem_of_getElem? (i := 690) (by decide +kernel), by decide +kernel⟩
theorem mm_691 : Cond.methodLink RL 56 yX8_wish ∈ zGW := List.mem_filter.mpr ⟨List.mem_of_getElem? (i := 691) (by decide +kernel), by decide +kernel⟩
theorem mm_692 : Cond.instanceMethod yX8_wish ∈ zGW := List.mem_filter.mpr ⟨List.mem_of_getElem? (i := 692) (by decide +kernel), by decide +kernel⟩
theorem mm_693 : Cond.selects RX8 yX8_wish yX8_wish ∈ zGW := List.mem_filter.mpr ⟨List.mem_of_getElem? (i := 693) (by decide +kernel), by decide +kernel⟩
theorem mm_694 : Cond.code yX8_wish cX8_wish 3 (some .boolean) ∈ zGW := List.mem_filter.mpr ⟨List.mem_of_getElem? (i := 694) (by decide +kernel), by decide +kernel⟩
theorem mm_695 : Cond.methodLink RL 62 yX8_odds ∈ zGW := List.mem_filter.mpr ⟨List.mem_of_getElem? (i := 695) (by decide +kernel), by decide +kernel⟩
theorem mm_696 : Cond.instanceMethod yX8_odds ∈ zGW := List.mem_filter.mpr ⟨List.mem_of_getElem? (i := 696) (by decide +kernel), by decide +kernel⟩
theorem mm_697 : Cond.selects RX8 yX8_odds yX8_odds ∈ zGW := List.mem_filter.mpr ⟨List.mem_of_getElem? (i := 697) (by decide +kernel), by decide +kernel⟩
theorem mm_698 : Cond.code yX8_odds cX8_odds 12 (some .long) ∈ zGW := List.mem_filter.mpr ⟨List.mem_of_getElem? (i := 698) (by decide +kernel), by decide +kernel⟩
theorem mm_699 : Cond.constantLong RX8 218 (-2) ∈ zGW := List.mem_filter.mpr ⟨List.mem_of_getElem? (i := 699) (by decide +kernel), by decide +kernel⟩
theorem mm_700 : Cond.methodLink RX8 220 yX8_commonDivisor ∈ zGW := List.mem_filter.mpr ⟨List.mem_of_getElem? (i := 700) (by decide +kernel), by decide +kernel⟩
theorem mm_701 : Cond.static yX8_commonDivisor ∈ zGW := List.mem_filter.mpr ⟨List.mem_of_getElem? (i := 701) (by decide +kernel), by decide +kernel⟩
theorem mm_702 : Cond.code yX8_commonDivisor cX8_commonDivisor 11 (some .long) ∈ zGW := List.mem_filter.mpr ⟨List.mem_of_getElem? (i := 702) (by decide +kernel), by decide +kernel⟩
theorem mm_703 : Cond.methodLink RL 72 yX8_fewest ∈ zGW := List.mem_filter.mpr ⟨List.mem_of_getElem? (i := 703) (by decide +kernel), by decide +kernel⟩
theorem mm_704 : Cond.instanceMethod yX8_fewest ∈ zGW := List.mem_filter.mpr ⟨List.mem_of_getElem? (i := 704) (by decide +kernel), by decide +kernel⟩
theorem mm_705 : Cond.selects RX8 yX8_fewest yX8_fewest ∈ zGW := List.mem_filter.mpr ⟨List.mem_of_getElem? (i := 705) (by decide +kernel), by decide +kernel⟩
theorem mm_706 : Cond.code yX8_fewest cX8_fewest 5 (some .int) ∈ zGW := List.mem_filter.mpr ⟨List.mem_of_getElem? (i := 706) (by decide +kernel), by decide +kernel⟩
theorem mm_707 : Cond.methodLink RX8 257 yX8_fewestGossips ∈ zGW := List.mem_filter.mpr ⟨List.mem_of_getElem? (i := 707) (by decide +kernel), by decide +kernel⟩
theorem mm_709 : Cond.instanceMethod yX8_fewestGossips ∈ zGW := List.mem_filter.mpr ⟨List.mem_of_getElem? (i := 709) (by decide +kernel), by decide +kernel⟩
theorem mm_710 : Cond.code yX8_fewestGossips cX8_fewestGossips 7 (some .int) ∈ zGW := List.mem_filter.mpr ⟨List.mem_of_getElem? (i := 710) (by decide +kernel), by decide +kernel⟩
theorem mm_711 : Cond.methodLink RX8 260 yX8_mayLaid ∈ zGW := List.mem_filter.mpr ⟨List.mem_of_getElem? (i := 711) (by decide +kernel), by decide +kernel⟩
theorem mm_713 : Cond.instanceMethod yX8_mayLaid ∈ zGW := List.mem_filter.mpr ⟨List.mem_of_getElem? (i := 713) (by decide +kernel), by decide +kernel⟩
theorem mm_714 : Cond.code yX8_mayLaid cX8_mayLaid 4 (some .int) ∈ zGW := List.mem_filter.mpr ⟨List.mem_of_getElem? (i := 714) (by decide +kernel), by decide +kernel⟩
theorem mm_715 : Cond.methodLink RX8 264 yX8_lowest ∈ zGW := List.mem_filter.mpr ⟨List.mem_of_getElem? (i := 715) (by decide +kernel), by decide +kernel⟩
theorem mm_716 : Cond.static yX8_lowest ∈ zGW := List.mem_filter.mpr ⟨List.mem_of_getElem? (i := 716) (by decide +kernel), by decide +kernel⟩
theorem mm_717 : Cond.code yX8_lowest cX8_lowest 2 (some .int) ∈ zGW := List.mem_filter.mpr ⟨List.mem_of_getElem? (i := 717) (by decide +kernel), by decide +kernel⟩
theorem mm_718 : Cond.methodLink RL 75 yX8_questions ∈ zGW := List.mem_filter.mpr ⟨List.mem_of_getElem? (i := 718) (by decide +kernel), by decide +kernel⟩
theorem mm_719 : Cond.instanceMethod yX8_questions ∈ zGW := List.mem_filter.mpr ⟨List.mem_of_getElem? (i := 719) (by decide +kernel), by decide +kernel⟩
theorem mm_720 : Cond.selects RX8 yX8_questions yX8_questions ∈ zGW := List.mem_filter.mpr ⟨List.mem_of_getElem? (i := 720) (by decide +kernel), by decide +kernel⟩
theorem mm_721 : Cond.code yX8_questions cX8_questions 7 (some .int) ∈ zGW := List.mem_filter.mpr ⟨List.mem_of_getElem? (i := 721) (by decide +kernel), by decide +kernel⟩
theorem mm_722 : Cond.methodLink RX8 267 yX8_someAlike ∈ zGW := List.mem_filter.mpr ⟨List.mem_of_getElem? (i := 722) (by decide +kernel), by decide +kernel⟩
theorem mm_724 : Cond.instanceMethod yX8_someAlike ∈ zGW := List.mem_filter.mpr ⟨List.mem_of_getElem? (i := 724) (by decide +kernel), by decide +kernel⟩
theorem mm_725 : Cond.code yX8_someAlike cX8_someAlike 5 (some .boolean) ∈ zGW := List.mem_filter.mpr ⟨List.mem_of_getElem? (i := 725) (by decide +kernel), by decide +kernel⟩
theorem mm_726 : Cond.methodLink RX8 270 yX0_prepare ∈ zGW := List.mem_filter.mpr ⟨List.mem_of_getElem? (i := 726) (by decide +kernel), by decide +kernel⟩
theorem mm_727 : Cond.instanceMethod yX0_prepare ∈ zGW := List.mem_filter.mpr ⟨List.mem_of_getElem? (i := 727) (by decide +kernel), by decide +kernel⟩
theorem mm_728 : Cond.selects RX0 yX0_prepare yX0_prepare ∈ zGW := List.mem_filter.mpr ⟨List.mem_of_getElem? (i := 728) (by decide +kernel), by decide +kernel⟩
theorem mm_729 : Cond.code yX0_prepare cX0_prepare 7 none ∈ zGW := List.mem_filter.mpr ⟨List.mem_of_getElem? (i := 729) (by decide +kernel), by decide +kernel⟩
theorem mm_730 : Cond.methodLink RX0 28 yX0_makeRoom ∈ zGW := List.mem_filter.mpr ⟨List.mem_of_getElem? (i := 730) (by decide +kernel), by decide +kernel⟩
theorem mm_732 : Cond.instanceMethod yX0_makeRoom ∈ zGW := List.mem_filter.mpr ⟨List.mem_of_getElem? (i := 732) (by decide +kernel), by decide +kernel⟩
theorem mm_733 : Cond.code yX0_makeRoom cX0_makeRoom 4 none ∈ zGW := List.mem_filter.mpr ⟨List.mem_of_getElem? (i := 733) (by decide +kernel), by decide +kernel⟩
theorem mm_735 : Cond.methodLink RX0 36 Lib.Math.max.name ∈ zGW := List.mem_filter.mpr ⟨List.mem_of_getElem? (i := 735) (by decide +kernel), by decide +kernel⟩
theorem mm_736 : Cond.methodLink RX0 42 yX3_whoBelow ∈ zGW := List.mem_filter.mpr ⟨List.mem_of_getElem? (i := 736) (by decide +kernel), by decide +kernel⟩
theorem mm_737 : Cond.methodLink RX0 47 yX0_addSplit ∈ zGW := List.mem_filter.mpr ⟨List.mem_of_getElem? (i := 737) (by decide +kernel), by decide +kernel⟩
theorem mm_739 : Cond.instanceMethod yX0_addSplit ∈ zGW := List.mem_filter.mpr ⟨List.mem_of_getElem? (i := 739) (by decide +kernel), by decide +kernel⟩
theorem mm_740 : Cond.code yX0_addSplit cX0_addSplit 5 none ∈ zGW := List.mem_filter.mpr ⟨List.mem_of_getElem? (i := 740) (by decide +kernel), by decide +kernel⟩
theorem mm_741 : Cond.methodLink RX8 274 yX0_fewestFor ∈ zGW := List.mem_filter.mpr ⟨List.mem_of_getElem? (i := 741) (by decide +kernel), by decide +kernel⟩
theorem mm_742 : Cond.instanceMethod yX0_fewestFor ∈ zGW := List.mem_filter.mpr ⟨List.mem_of_getElem? (i := 742) (by decide +kernel), by decide +kernel⟩
theorem mm_743 : Cond.selects RX0 yX0_fewestFor yX0_fewestFor ∈ zGW := List.mem_filter.mpr ⟨List.mem_of_getElem? (i := 743) (by decide +kernel), by decide +kernel⟩
theorem mm_744 : Cond.code yX0_fewestFor cX0_fewestFor 4 (some .int) ∈ zGW := List.mem_filter.mpr ⟨List.mem_of_getElem? (i := 744) (by decide +kernel), by decide +kernel⟩
theorem mm_745 : Cond.methodLink RX0 51 yX0_areEnough ∈ zGW := List.mem_filter.mpr ⟨List.mem_of_getElem? (i := 745) (by decide +kernel), by decide +kernel⟩
theorem mm_747 : Cond.instanceMethod yX0_areEnough ∈ zGW := List.mem_filter.mpr ⟨List.mem_of_getElem? (i := 747) (by decide +kernel), by decide +kernel⟩
theorem mm_748 : Cond.code yX0_areEnough cX0_areEnough 7 (some .boolean) ∈ zGW := List.mem_filter.mpr ⟨List.mem_of_getElem? (i := 748) (by decide +kernel), by decide +kernel⟩
theorem mm_749 : Cond.methodLink RX0 59 yJ6_bitCount_0f7a4 ∈ zGW := List.mem_filter.mpr ⟨List.mem_of_getElem? (i := 749) (by decide +kernel), by decide +kernel⟩
theorem mm_751 : Cond.methodLink RX0 67 yX0_atLeast ∈ zGW := List.mem_filter.mpr ⟨List.mem_of_getElem? (i := 751) (by decide +kernel), by decide +kernel⟩
theorem mm_753 : Cond.instanceMethod yX0_atLeast ∈ zGW := List.mem_filter.mpr ⟨List.mem_of_getElem? (i := 753) (by decide +kernel), by decide +kernel⟩
theorem mm_754 : Cond.code yX0_atLeast cX0_atLeast 7 (some .int) ∈ zGW := List.mem_filter.mpr ⟨List.mem_of_getElem? (i := 754) (by decide +kernel), by decide +kernel⟩
theorem mm_755 : Cond.methodLink RX0 74 Lib.Math.min.name ∈ zGW := List.mem_filter.mpr ⟨List.mem_of_getElem? (i := 755) (by decide +kernel), by decide +kernel⟩
theorem mm_756 : Cond.methodLink RX0 70 yX0_keep ∈ zGW := List.mem_filter.mpr ⟨List.mem_of_getElem? (i := 756) (by decide +kernel), by decide +kernel⟩
theorem mm_758 : Cond.instanceMethod yX0_keep ∈ zGW := List.mem_filter.mpr ⟨List.mem_of_getElem? (i := 758) (by decide +kernel), by decide +kernel⟩
theorem mm_759 : Cond.code yX0_keep cX0_keep 4 none ∈ zGW := List.mem_filter.mpr ⟨List.mem_of_getElem? (i := 759) (by decide +kernel), by decide +kernel⟩
theorem mm_760 : Cond.methodLink RX0 55 yX0_areEnoughBy ∈ zGW := List.mem_filter.mpr ⟨List.mem_of_getElem? (i := 760) (by decide +kernel), by decide +kernel⟩
theorem mm_762 : Cond.instanceMethod yX0_areEnoughBy ∈ zGW := List.mem_filter.mpr ⟨List.mem_of_getElem? (i := 762) (by decide +kernel), by decide +kernel⟩
theorem mm_763 : Cond.code yX0_areEnoughBy cX0_areEnoughBy 6 (some .boolean) ∈ zGW := List.mem_filter.mpr ⟨List.mem_of_getElem? (i := 763) (by decide +kernel), by decide +kernel⟩
theorem mm_764 : Cond.methodLink RX8 277 yX8_firstQuestion ∈ zGW := List.mem_filter.mpr ⟨List.mem_of_getElem? (i := 764) (by decide +kernel), by decide +kernel⟩
theorem mm_766 : Cond.instanceMethod yX8_firstQuestion ∈ zGW := List.mem_filter.mpr ⟨List.mem_of_getElem? (i := 766) (by decide +kernel), by decide +kernel⟩
theorem mm_767 : Cond.code yX8_firstQuestion cX8_firstQuestion 6 (some .int) ∈ zGW := List.mem_filter.mpr ⟨List.mem_of_getElem? (i := 767) (by decide +kernel), by decide +kernel⟩
theorem mm_768 : Cond.methodLink RX8 375 yX0_isFirst ∈ zGW := List.mem_filter.mpr ⟨List.mem_of_getElem? (i := 768) (by decide +kernel), by decide +kernel⟩
theorem mm_769 : Cond.instanceMethod yX0_isFirst ∈ zGW := List.mem_filter.mpr ⟨List.mem_of_getElem? (i := 769) (by decide +kernel), by decide +kernel⟩
theorem mm_770 : Cond.selects RX0 yX0_isFirst yX0_isFirst ∈ zGW := List.mem_filter.mpr ⟨List.mem_of_getElem? (i := 770) (by decide +kernel), by decide +kernel⟩
theorem mm_771 : Cond.code yX0_isFirst cX0_isFirst 4 (some .boolean) ∈ zGW := List.mem_filter.mpr ⟨List.mem_of_getElem? (i := 771) (by decide +kernel), by decide +kernel⟩
theorem mm_772 : Cond.methodLink RL 78 yX8_bestSwap ∈ zGW := List.mem_filter.mpr ⟨List.mem_of_getElem? (i := 772) (by decide +kernel), by decide +kernel⟩
theorem mm_773 : Cond.instanceMethod yX8_bestSwap ∈ zGW := List.mem_filter.mpr ⟨List.mem_of_getElem? (i := 773) (by decide +kernel), by decide +kernel⟩
theorem mm_774 : Cond.selects RX8 yX8_bestSwap yX8_bestSwap ∈ zGW := List.mem_filter.mpr ⟨List.mem_of_getElem? (i := 774) (by decide +kernel), by decide +kernel⟩
theorem mm_775 : Cond.code yX8_bestSwap cX8_bestSwap 10 (some .int) ∈ zGW := List.mem_filter.mpr ⟨List.mem_of_getElem? (i := 775) (by decide +kernel), by decide +kernel⟩
theorem mm_776 : Cond.methodLink RX8 303 yX8_safeIfSwapped ∈ zGW := List.mem_filter.mpr ⟨List.mem_of_getElem? (i := 776) (by decide +kernel), by decide +kernel⟩
theorem mm_778 : Cond.instanceMethod yX8_safeIfSwapped ∈ zGW := List.mem_filter.mpr ⟨List.mem_of_getElem? (i := 778) (by decide +kernel), by decide +kernel⟩
theorem mm_779 : Cond.code yX8_safeIfSwapped cX8_safeIfSwapped 7 (some .int) ∈ zGW := List.mem_filter.mpr ⟨List.mem_of_getElem? (i := 779) (by decide +kernel), by decide +kernel⟩
theorem mm_780 : Cond.methodLink RX8 365 yX8_swap ∈ zGW := List.mem_filter.mpr ⟨List.mem_of_getElem? (i := 780) (by decide +kernel), by decide +kernel⟩
theorem mm_781 : Cond.methodLink RL 81 yX8_together ∈ zGW := List.mem_filter.mpr ⟨List.mem_of_getElem? (i := 781) (by decide +kernel), by decide +kernel⟩
theorem mm_782 : Cond.instanceMethod yX8_together ∈ zGW := List.mem_filter.mpr ⟨List.mem_of_getElem? (i := 782) (by decide +kernel), by decide +kernel⟩
theorem mm_783 : Cond.selects RX8 yX8_together yX8_together ∈ zGW := List.mem_filter.mpr ⟨List.mem_of_getElem? (i := 783) (by decide +kernel), by decide +kernel⟩
theorem mm_784 : Cond.code yX8_together cX8_together 5 (some .int) ∈ zGW := List.mem_filter.mpr ⟨List.mem_of_getElem? (i := 784) (by decide +kernel), by decide +kernel⟩
theorem mm_785 : Cond.methodLink RX8 307 yX8_firstBared ∈ zGW := List.mem_filter.mpr ⟨List.mem_of_getElem? (i := 785) (by decide +kernel), by decide +kernel⟩
theorem mm_787 : Cond.instanceMethod yX8_firstBared ∈ zGW := List.mem_filter.mpr ⟨List.mem_of_getElem? (i := 787) (by decide +kernel), by decide +kernel⟩
theorem mm_788 : Cond.code yX8_firstBared cX8_firstBared 3 (some .int) ∈ zGW := List.mem_filter.mpr ⟨List.mem_of_getElem? (i := 788) (by decide +kernel), by decide +kernel⟩
theorem mm_789 : Cond.methodLink RL 85 yX8_blurring ∈ zGW := List.mem_filter.mpr ⟨List.mem_of_getElem? (i := 789) (by decide +kernel), by decide +kernel⟩
theorem mm_790 : Cond.instanceMethod yX8_blurring ∈ zGW := List.mem_filter.mpr ⟨List.mem_of_getElem? (i := 790) (by decide +kernel), by decide +kernel⟩
theorem mm_791 : Cond.selects RX8 yX8_blurring yX8_blurring ∈ zGW := List.mem_filter.mpr ⟨List.mem_of_getElem? (i := 791) (by decide +kernel), by decide +kernel⟩
theorem mm_792 : Cond.code yX8_blurring cX8_blurring 6 (some .int) ∈ zGW := List.mem_filter.mpr ⟨List.mem_of_getElem? (i := 792) (by decide +kernel), by decide +kernel⟩
theorem mm_793 : Cond.methodLink RX8 280 yX8_prepareBlurs ∈ zGW := List.mem_filter.mpr ⟨List.mem_of_getElem? (i := 793) (by decide +kernel), by decide +kernel⟩
theorem mm_795 : Cond.instanceMethod yX8_prepareBlurs ∈ zGW := List.mem_filter.mpr ⟨List.mem_of_getElem? (i := 795) (by decide +kernel), by decide +kernel⟩
theorem mm_796 : Cond.code yX8_prepareBlurs cX8_prepareBlurs 4 none ∈ zGW := List.mem_filter.mpr ⟨List.mem_of_getElem? (i := 796) (by decide +kernel), by decide +kernel⟩
theorem mm_797 : Cond.methodLink RX8 378 yX1_clear ∈ zGW := List.mem_filter.mpr ⟨List.mem_of_getElem? (i := 797) (by decide +kernel), by decide +kernel⟩
theorem mm_798 : Cond.instanceMethod yX1_clear ∈ zGW := List.mem_filter.mpr ⟨List.mem_of_getElem? (i := 798) (by decide +kernel), by decide +kernel⟩
theorem mm_799 : Cond.selects RX1 yX1_clear yX1_clear ∈ zGW := List.mem_filter.mpr ⟨List.mem_of_getElem? (i := 799) (by decide +kernel), by decide +kernel⟩
theorem mm_800 : Cond.code yX1_clear cX1_clear 2 none ∈ zGW := List.mem_filter.mpr ⟨List.mem_of_getElem? (i := 800) (by decide +kernel), by decide +kernel⟩
theorem mm_801 : Cond.methodLink RX8 379 yX8_prepareBlursOf ∈ zGW := List.mem_filter.mpr ⟨List.mem_of_getElem? (i := 801) (by decide +kernel), by decide +kernel⟩
theorem mm_803 : Cond.instanceMethod yX8_prepareBlursOf ∈ zGW := List.mem_filter.mpr ⟨List.mem_of_getElem? (i := 803) (by decide +kernel), by decide +kernel⟩
theorem mm_804 : Cond.code yX8_prepareBlursOf cX8_prepareBlursOf 7 none ∈ zGW := List.mem_filter.mpr ⟨List.mem_of_getElem? (i := 804) (by decide +kernel), by decide +kernel⟩
theorem mm_805 : Cond.methodLink RX8 369 yX3_lossOf ∈ zGW := List.mem_filter.mpr ⟨List.mem_of_getElem? (i := 805) (by decide +kernel), by decide +kernel⟩
theorem mm_806 : Cond.instanceMethod yX3_lossOf ∈ zGW := List.mem_filter.mpr ⟨List.mem_of_getElem? (i := 806) (by decide +kernel), by decide +kernel⟩
theorem mm_807 : Cond.selects RX3 yX3_lossOf yX3_lossOf ∈ zGW := List.mem_filter.mpr ⟨List.mem_of_getElem? (i := 807) (by decide +kernel), by decide +kernel⟩
theorem mm_808 : Cond.code yX3_lossOf cX3_lossOf 2 (some .int) ∈ zGW := List.mem_filter.mpr ⟨List.mem_of_getElem? (i := 808) (by decide +kernel), by decide +kernel⟩
theorem mm_809 : Cond.methodLink RX3 43 yX3_valuesBelow ∈ zGW := List.mem_filter.mpr ⟨List.mem_of_getElem? (i := 809) (by decide +kernel), by decide +kernel⟩
theorem mm_810 : Cond.instanceMethod yX3_valuesBelow ∈ zGW := List.mem_filter.mpr ⟨List.mem_of_getElem? (i := 810) (by decide +kernel), by decide +kernel⟩
theorem mm_811 : Cond.selects RX3 yX3_valuesBelow yX3_valuesBelow ∈ zGW := List.mem_filter.mpr ⟨List.mem_of_getElem? (i := 811) (by decide +kernel), by decide +kernel⟩
theorem mm_812 : Cond.code yX3_valuesBelow cX3_valuesBelow 2 (some .int) ∈ zGW := List.mem_filter.mpr ⟨List.mem_of_getElem? (i := 812) (by decide +kernel), by decide +kernel⟩
theorem mm_813 : Cond.methodLink RX3 47 Lib.Math.max.name ∈ zGW := List.mem_filter.mpr ⟨List.mem_of_getElem? (i := 813) (by decide +kernel), by decide +kernel⟩
theorem mm_814 : Cond.methodLink RX8 382 yX1_put ∈ zGW := List.mem_filter.mpr ⟨List.mem_of_getElem? (i := 814) (by decide +kernel), by decide +kernel⟩
theorem mm_815 : Cond.instanceMethod yX1_put ∈ zGW := List.mem_filter.mpr ⟨List.mem_of_getElem? (i := 815) (by decide +kernel), by decide +kernel⟩
theorem mm_816 : Cond.selects RX1 yX1_put yX1_put ∈ zGW := List.mem_filter.mpr ⟨List.mem_of_getElem? (i := 816) (by decide +kernel), by decide +kernel⟩
theorem mm_817 : Cond.code yX1_put cX1_put 6 none ∈ zGW := List.mem_filter.mpr ⟨List.mem_of_getElem? (i := 817) (by decide +kernel), by decide +kernel⟩
theorem mm_821 : Cond.methodLink RX8 385 yX1_raiseTop ∈ zGW := List.mem_filter.mpr ⟨List.mem_of_getElem? (i := 821) (by decide +kernel), by decide +kernel⟩
theorem mm_822 : Cond.instanceMethod yX1_raiseTop ∈ zGW := List.mem_filter.mpr ⟨List.mem_of_getElem? (i := 822) (by decide +kernel), by decide +kernel⟩
theorem mm_823 : Cond.selects RX1 yX1_raiseTop yX1_raiseTop ∈ zGW := List.mem_filter.mpr ⟨List.mem_of_getElem? (i := 823) (by decide +kernel), by decide +kernel⟩
theorem mm_824 : Cond.code yX1_raiseTop cX1_raiseTop 3 none ∈ zGW := List.mem_filter.mpr ⟨List.mem_of_getElem? (i := 824) (by decide +kernel), by decide +kernel⟩
theorem mm_825 : Cond.methodLink RX1 47 Lib.Math.max.name ∈ zGW := List.mem_filter.mpr ⟨List.mem_of_getElem? (i := 825) (by decide +kernel), by decide +kernel⟩
theorem mm_826 : Cond.methodLink RX8 283 yX1_find ∈ zGW := List.mem_filter.mpr ⟨List.mem_of_getElem? (i := 826) (by decide +kernel), by decide +kernel⟩
theorem mm_827 : Cond.instanceMethod yX1_find ∈ zGW := List.mem_filter.mpr ⟨List.mem_of_getElem? (i := 827) (by decide +kernel), by decide +kernel⟩
theorem mm_828 : Cond.selects RX1 yX1_find yX1_find ∈ zGW := List.mem_filter.mpr ⟨List.mem_of_getElem? (i := 828) (by decide +kernel), by decide +kernel⟩
theorem mm_829 : Cond.code yX1_find cX1_find 7 none ∈ zGW := List.mem_filter.mpr ⟨List.mem_of_getElem? (i := 829) (by decide +kernel), by decide +kernel⟩
theorem mm_830 : Cond.methodLink RX1 53 yX1_level ∈ zGW := List.mem_filter.mpr ⟨List.mem_of_getElem? (i := 830) (by decide +kernel), by decide +kernel⟩
theorem mm_831 : Cond.static yX1_level ∈ zGW := List.mem_filter.mpr ⟨List.mem_of_getElem? (i := 831) (by decide +kernel), by decide +kernel⟩
theorem mm_832 : Cond.code yX1_level cX1_level 4 (some .int) ∈ zGW := List.mem_filter.mpr ⟨List.mem_of_getElem? (i := 832) (by decide +kernel), by decide +kernel⟩
theorem mm_833 : Cond.methodLink RX1 56 Lib.Math.min.name ∈ zGW := List.mem_filter.mpr ⟨List.mem_of_getElem? (i := 833) (by decide +kernel), by decide +kernel⟩
theorem mm_834 : Cond.methodLink RX1 59 yX1_tryRow ∈ zGW := List.mem_filter.mpr ⟨List.mem_of_getElem? (i := 834) (by decide +kernel), by decide +kernel⟩
theorem mm_836 : Cond.instanceMethod yX1_tryRow ∈ zGW := List.mem_filter.mpr ⟨List.mem_of_getElem? (i := 836) (by decide +kernel), by decide +kernel⟩
theorem mm_837 : Cond.code yX1_tryRow cX1_tryRow 8 none ∈ zGW := List.mem_filter.mpr ⟨List.mem_of_getElem? (i := 837) (by decide +kernel), by decide +kernel⟩
theorem mm_838 : Cond.methodLink RX1 63 yX1_whoFits ∈ zGW := List.mem_filter.mpr ⟨List.mem_of_getElem? (i := 838) (by decide +kernel), by decide +kernel⟩
theorem mm_840 : Cond.instanceMethod yX1_whoFits ∈ zGW := List.mem_filter.mpr ⟨List.mem_of_getElem? (i := 840) (by decide +kernel), by decide +kernel⟩
theorem mm_841 : Cond.code yX1_whoFits cX1_whoFits 4 (some .int) ∈ zGW := List.mem_filter.mpr ⟨List.mem_of_getElem? (i := 841) (by decide +kernel), by decide +kernel⟩
theorem mm_842 : Cond.methodLink RX1 67 yJ6_bitCount_0f7a4 ∈ zGW := List.mem_filter.mpr ⟨List.mem_of_getElem? (i := 842) (by decide +kernel), by decide +kernel⟩
theorem mm_843 : Cond.methodLink RX1 72 yX1_lossOf ∈ zGW := List.mem_filter.mpr ⟨List.mem_of_getElem? (i := 843) (by decide +kernel), by decide +kernel⟩
theorem mm_845 : Cond.instanceMethod yX1_lossOf ∈ zGW := List.mem_filter.mpr ⟨List.mem_of_getElem? (i := 845) (by decide +kernel), by decide +kernel⟩
theorem mm_846 : Cond.code yX1_lossOf cX1_lossOf 4 (some .int) ∈ zGW := List.mem_filter.mpr ⟨List.mem_of_getElem? (i := 846) (by decide +kernel), by decide +kernel⟩
theorem mm_847 : Cond.methodLink RX8 294 yX1_level ∈ zGW := List.mem_filter.mpr ⟨List.mem_of_getElem? (i := 847) (by decide +kernel), by decide +kernel⟩
theorem mm_848 : Cond.methodLink RL 134 yL_idle ∈ zGW := List.mem_filter.mpr ⟨List.mem_of_getElem? (i := 848) (by decide +kernel), by decide +kernel⟩
theorem mm_849 : Cond.static yL_idle ∈ zGW := List.mem_filter.mpr ⟨List.mem_of_getElem? (i := 849) (by decide +kernel), by decide +kernel⟩
theorem mm_850 : Cond.code yL_idle cL_idle 5 (some .boolean) ∈ zGW := List.mem_filter.mpr ⟨List.mem_of_getElem? (i := 850) (by decide +kernel), by decide +kernel⟩
theorem mm_851 : Cond.methodLink RL 88 yX8_count ∈ zGW := List.mem_filter.mpr ⟨List.mem_of_getElem? (i := 851) (by decide +kernel), by decide +kernel⟩
theorem mm_852 : Cond.instanceMethod yX8_count ∈ zGW := List.mem_filter.mpr ⟨List.mem_of_getElem? (i := 852) (by decide +kernel), by decide +kernel⟩
theorem mm_853 : Cond.selects RX8 yX8_count yX8_count ∈ zGW := List.mem_filter.mpr ⟨List.mem_of_getElem? (i := 853) (by decide +kernel), by decide +kernel⟩
theorem mm_854 : Cond.code yX8_count cX8_count 2 (some .int) ∈ zGW := List.mem_filter.mpr ⟨List.mem_of_getElem? (i := 854) (by decide +kernel), by decide +kernel⟩
theorem mm_855 : Cond.methodLink RX8 316 yX8_toldGossips ∈ zGW := List.mem_filter.mpr ⟨List.mem_of_getElem? (i := 855) (by decide +kernel), by decide +kernel⟩
theorem mm_857 : Cond.instanceMethod yX8_toldGossips ∈ zGW := List.mem_filter.mpr ⟨List.mem_of_getElem? (i := 857) (by decide +kernel), by decide +kernel⟩
theorem mm_858 : Cond.code yX8_toldGossips cX8_toldGossips 3 (some .int) ∈ zGW := List.mem_filter.mpr ⟨List.mem_of_getElem? (i := 858) (by decide +kernel), by decide +kernel⟩
theorem mm_859 : Cond.methodLink RL 92 yX8_weight ∈ zGW := List.mem_filter.mpr ⟨List.mem_of_getElem? (i := 859) (by decide +kernel), by decide +kernel⟩
theorem mm_860 : Cond.instanceMethod yX8_weight ∈ zGW := List.mem_filter.mpr ⟨List.mem_of_getElem? (i := 860) (by decide +kernel), by decide +kernel⟩
theorem mm_861 : Cond.selects RX8 yX8_weight yX8_weight ∈ zGW := List.mem_filter.mpr ⟨List.mem_of_getElem? (i := 861) (by decide +kernel), by decide +kernel⟩
theorem mm_862 : Cond.code yX8_weight cX8_weight 3 (some .boolean) ∈ zGW := List.mem_filter.mpr ⟨List.mem_of_getElem? (i := 862) (by decide +kernel), by decide +kernel⟩
theorem mm_863 : Cond.methodLink RL 95 yX8_blurred ∈ zGW := List.mem_filter.mpr ⟨List.mem_of_getElem? (i := 863) (by decide +kernel), by decide +kernel⟩
theorem mm_864 : Cond.instanceMethod yX8_blurred ∈ zGW := List.mem_filter.mpr ⟨List.mem_of_getElem? (i := 864) (by decide +kernel), by decide +kernel⟩
theorem mm_865 : Cond.selects RX8 yX8_blurred yX8_blurred ∈ zGW := List.mem_filter.mpr ⟨List.mem_of_getElem? (i := 865) (by decide +kernel), by decide +kernel⟩
theorem mm_866 : Cond.code yX8_blurred cX8_blurred 4 (some .int) ∈ zGW := List.mem_filter.mpr ⟨List.mem_of_getElem? (i := 866) (by decide +kernel), by decide +kernel⟩
theorem mm_867 : Cond.methodLink RL 98 yX8_size ∈ zGW := List.mem_filter.mpr ⟨List.mem_of_getElem? (i := 867) (by decide +kernel), by decide +kernel⟩
theorem mm_868 : Cond.instanceMethod yX8_size ∈ zGW := List.mem_filter.mpr ⟨List.mem_of_getElem? (i := 868) (by decide +kernel), by decide +kernel⟩
theorem mm_869 : Cond.selects RX8 yX8_size yX8_size ∈ zGW := List.mem_filter.mpr ⟨List.mem_of_getElem? (i := 869) (by decide +kernel), by decide +kernel⟩
theorem mm_870 : Cond.code yX8_size cX8_size 3 (some .int) ∈ zGW := List.mem_filter.mpr ⟨List.mem_of_getElem? (i := 870) (by decide +kernel), by decide +kernel⟩
theorem mm_871 : Cond.methodLink RX8 127 yX3_valuesBelow ∈ zGW := List.mem_filter.mpr ⟨List.mem_of_getElem? (i := 871) (by decide +kernel), by decide +kernel⟩
theorem mm_872 : Cond.methodLink RL 101 yX8_line ∈ zGW := List.mem_filter.mpr ⟨List.mem_of_getElem? (i := 872) (by decide +kernel), by decide +kernel⟩
theorem mm_873 : Cond.instanceMethod yX8_line ∈ zGW := List.mem_filter.mpr ⟨List.mem_of_getElem? (i := 873) (by decide +kernel), by decide +kernel⟩
theorem mm_874 : Cond.selects RX8 yX8_line yX8_line ∈ zGW := List.mem_filter.mpr ⟨List.mem_of_getElem? (i := 874) (by decide +kernel), by decide +kernel⟩
theorem mm_875 : Cond.code yX8_line cX8_line 4 (some .int) ∈ zGW := List.mem_filter.mpr ⟨List.mem_of_getElem? (i := 875) (by decide +kernel), by decide +kernel⟩
theorem mm_876 : Cond.constantLong RL 108 (-1) ∈ zGW := List.mem_filter.mpr ⟨List.mem_of_getElem? (i := 876) (by decide +kernel), by decide +kernel⟩
theorem mm_877 : Cond.methodLink RL 113 yX8_giving ∈ zGW := List.mem_filter.mpr ⟨List.mem_of_getElem? (i := 877) (by decide +kernel), by decide +kernel⟩
theorem mm_878 : Cond.instanceMethod yX8_giving ∈ zGW := List.mem_filter.mpr ⟨List.mem_of_getElem? (i := 878) (by decide +kernel), by decide +kernel⟩
theorem mm_879 : Cond.selects RX8 yX8_giving yX8_giving ∈ zGW := List.mem_filter.mpr ⟨List.mem_of_getElem? (i := 879) (by decide +kernel), by decide +kernel⟩
theorem mm_880 : Cond.code yX8_giving cX8_giving 5 (some .int) ∈ zGW := List.mem_filter.mpr ⟨List.mem_of_getElem? (i := 880) (by decide +kernel), by decide +kernel⟩
theorem mm_881 : Cond.methodLink RX8 235 yX6_least ∈ zGW := List.mem_filter.mpr ⟨List.mem_of_getElem? (i := 881) (by decide +kernel), by decide +kernel⟩
theorem mm_882 : Cond.instanceMethod yX6_least ∈ zGW := List.mem_filter.mpr ⟨List.mem_of_getElem? (i := 882) (by decide +kernel), by decide +kernel⟩
theorem mm_883 : Cond.selects RX6 yX6_least yX6_least ∈ zGW := List.mem_filter.mpr ⟨List.mem_of_getElem? (i := 883) (by decide +kernel), by decide +kernel⟩
theorem mm_884 : Cond.code yX6_least cX6_least 4 (some .int) ∈ zGW := List.mem_filter.mpr ⟨List.mem_of_getElem? (i := 884) (by decide +kernel), by decide +kernel⟩
theorem mm_885 : Cond.methodLink RX6 58 yX6_weigh ∈ zGW := List.mem_filter.mpr ⟨List.mem_of_getElem? (i := 885) (by decide +kernel), by decide +kernel⟩
theorem mm_887 : Cond.methodLink RL 119 yX8_loss ∈ zGW := List.mem_filter.mpr ⟨List.mem_of_getElem? (i := 887) (by decide +kernel), by decide +kernel⟩
theorem mm_888 : Cond.instanceMethod yX8_loss ∈ zGW := List.mem_filter.mpr ⟨List.mem_of_getElem? (i := 888) (by decide +kernel), by decide +kernel⟩
theorem mm_889 : Cond.selects RX8 yX8_loss yX8_loss ∈ zGW := List.mem_filter.mpr ⟨List.mem_of_getElem? (i := 889) (by decide +kernel), by decide +kernel⟩
theorem mm_890 : Cond.code yX8_loss cX8_loss 4 (some .int) ∈ zGW := List.mem_filter.mpr ⟨List.mem_of_getElem? (i := 890) (by decide +kernel), by decide +kernel⟩
theorem mm_891 : Cond.methodLink RX8 310 yX8_lossOfLine ∈ zGW := List.mem_filter.mpr ⟨List.mem_of_getElem? (i := 891) (by decide +kernel), by decide +kernel⟩
theorem mm_893 : Cond.instanceMethod yX8_lossOfLine ∈ zGW := List.mem_filter.mpr ⟨List.mem_of_getElem? (i := 893) (by decide +kernel), by decide +kernel⟩
theorem mm_894 : Cond.code yX8_lossOfLine cX8_lossOfLine 5 (some .int) ∈ zGW := List.mem_filter.mpr ⟨List.mem_of_getElem? (i := 894) (by decide +kernel), by decide +kernel⟩
theorem mm_895 : Cond.methodLink RL 122 yX8_linesOf ∈ zGW := List.mem_filter.mpr ⟨List.mem_of_getElem? (i := 895) (by decide +kernel), by decide +kernel⟩
theorem mm_896 : Cond.instanceMethod yX8_linesOf ∈ zGW := List.mem_filter.mpr ⟨List.mem_of_getElem? (i := 896) (by decide +kernel), by decide +kernel⟩
theorem mm_897 : Cond.selects RX8 yX8_linesOf yX8_linesOf ∈ zGW := List.mem_filter.mpr ⟨List.mem_of_getElem? (i := 897) (by decide +kernel), by decide +kernel⟩
theorem mm_898 : Cond.code yX8_linesOf cX8_linesOf 6 (some .int) ∈ zGW := List.mem_filter.mpr ⟨List.mem_of_getElem? (i := 898) (by decide +kernel), by decide +kernel⟩
theorem mm_899 : Cond.methodLink RL 125 yX8_check ∈ zGW := List.mem_filter.mpr ⟨List.mem_of_getElem? (i := 899) (by decide +kernel), by decide +kernel⟩
theorem mm_900 : Cond.instanceMethod yX8_check ∈ zGW := List.mem_filter.mpr ⟨List.mem_of_getElem? (i := 900) (by decide +kernel), by decide +kernel⟩
theorem mm_901 : Cond.selects RX8 yX8_check yX8_check ∈ zGW := List.mem_filter.mpr ⟨List.mem_of_getElem? (i := 901) (by decide +kernel), by decide +kernel⟩
theorem mm_902 : Cond.code yX8_check cX8_check 6 (some .int) ∈ zGW := List.mem_filter.mpr ⟨List.mem_of_getElem? (i := 902) (by decide +kernel), by decide +kernel⟩
theorem mm_903 : Cond.methodLink RX8 314 yX7_number ∈ zGW := List.mem_filter.mpr ⟨List.mem_of_getElem? (i := 903) (by decide +kernel), by decide +kernel⟩
theorem mm_904 : Cond.instanceMethod yX7_number ∈ zGW := List.mem_filter.mpr ⟨List.mem_of_getElem? (i := 904) (by decide +kernel), by decide +kernel⟩
theorem mm_905 : Cond.selects RX7 yX7_number yX7_number ∈ zGW := List.mem_filter.mpr ⟨List.mem_of_getElem? (i := 905) (by decide +kernel), by decide +kernel⟩
theorem mm_906 : Cond.code yX7_number cX7_number 2 (some .int) ∈ zGW := List.mem_filter.mpr ⟨List.mem_of_getElem? (i := 906) (by decide +kernel), by decide +kernel⟩
theorem mm_907 : Cond.methodLink RX7 23 yX7_byteAt ∈ zGW := List.mem_filter.mpr ⟨List.mem_of_getElem? (i := 907) (by decide +kernel), by decide +kernel⟩
theorem mm_908 : Cond.methodLink RL 142 yL_alike ∈ zGW := List.mem_filter.mpr ⟨List.mem_of_getElem? (i := 908) (by decide +kernel), by decide +kernel⟩
theorem mm_909 : Cond.static yL_alike ∈ zGW := List.mem_filter.mpr ⟨List.mem_of_getElem? (i := 909) (by decide +kernel), by decide +kernel⟩
theorem mm_910 : Cond.code yL_alike cL_alike 5 (some .boolean) ∈ zGW := List.mem_filter.mpr ⟨List.mem_of_getElem? (i := 910) (by decide +kernel), by decide +kernel⟩
theorem mm_911 : Cond.methodLink RL 146 yJ6_numberOfTrailingZeros_0f7a4 ∈ zGW := List.mem_filter.mpr ⟨List.mem_of_getElem? (i := 911) (by decide +kernel), by decide +kernel⟩
theorem mm_912 : Cond.static yJ6_numberOfTrailingZeros_0f7a4 ∈ zGW := List.mem_filter.mpr ⟨List.mem_of_getElem? (i := 912) (by decide +kernel), by decide +kernel⟩
theorem mm_913 : Cond.code yJ6_numberOfTrailingZeros_0f7a4 cJ6_numberOfTrailingZeros_0f7a4 2 (some .int) ∈ zGW := List.mem_filter.mpr ⟨List.mem_of_getElem? (i := 913) (by decide +kernel), by decide +kernel⟩
theorem mm_914 : Cond.constant RJ6 264 (65536) ∈ zGW := List.mem_filter.mpr ⟨List.mem_of_getElem? (i := 914) (by decide +kernel), by decide +kernel⟩
theorem mm_915 : Cond.constant RL 133 (16909060) ∈ zGW := List.mem_filter.mpr ⟨List.mem_of_getElem? (i := 915) (by decide +kernel), by decide +kernel⟩
theorem mm_165 : Cond.laysFinal RX0 "TwoFit$Asking" "splits" "[I" ∈ zGW := List.mem_filter.mpr ⟨List.mem_of_getElem? (i := 165) (by decide +kernel), by decide +kernel⟩
theorem mm_167 : Cond.lays RX0 "TwoFit$Asking" "splitCount" "I" ∈ zGW := List.mem_filter.mpr ⟨List.mem_of_getElem? (i := 167) (by decide +kernel), by decide +kernel⟩
theorem mm_169 : Cond.laysFinal RX0 "TwoFit$Asking" "sizes" "[I" ∈ zGW := List.mem_filter.mpr ⟨List.mem_of_getElem? (i := 169) (by decide +kernel), by decide +kernel⟩
theorem mm_171 : Cond.lays RX0 "TwoFit$Asking" "bounds" "[I" ∈ zGW := List.mem_filter.mpr ⟨List.mem_of_getElem? (i := 171) (by decide +kernel), by decide +kernel⟩
theorem mm_173 : Cond.lays RX0 "TwoFit$Asking" "time" "I" ∈ zGW := List.mem_filter.mpr ⟨List.mem_of_getElem? (i := 173) (by decide +kernel), by decide +kernel⟩
theorem mm_194 : Cond.lays RX1 "TwoFit$Blurs" "least" "I" ∈ zGW := List.mem_filter.mpr ⟨List.mem_of_getElem? (i := 194) (by decide +kernel), by decide +kernel⟩
theorem mm_196 : Cond.lays RX1 "TwoFit$Blurs" "leastRow" "I" ∈ zGW := List.mem_filter.mpr ⟨List.mem_of_getElem? (i := 196) (by decide +kernel), by decide +kernel⟩
theorem mm_198 : Cond.lays RX1 "TwoFit$Blurs" "leastCut" "I" ∈ zGW := List.mem_filter.mpr ⟨List.mem_of_getElem? (i := 198) (by decide +kernel), by decide +kernel⟩
theorem mm_200 : Cond.laysFinal RX1 "TwoFit$Blurs" "who" "[[I" ∈ zGW := List.mem_filter.mpr ⟨List.mem_of_getElem? (i := 200) (by decide +kernel), by decide +kernel⟩
theorem mm_202 : Cond.laysFinal RX1 "TwoFit$Blurs" "losses" "[[I" ∈ zGW := List.mem_filter.mpr ⟨List.mem_of_getElem? (i := 202) (by decide +kernel), by decide +kernel⟩
theorem mm_204 : Cond.laysFinal RX1 "TwoFit$Blurs" "tops" "[I" ∈ zGW := List.mem_filter.mpr ⟨List.mem_of_getElem? (i := 204) (by decide +kernel), by decide +kernel⟩
theorem mm_206 : Cond.laysFinal RX1 "TwoFit$Blurs" "levels" "[I" ∈ zGW := List.mem_filter.mpr ⟨List.mem_of_getElem? (i := 206) (by decide +kernel), by decide +kernel⟩
theorem mm_292 : Cond.lays RX2 "TwoFit$Book" "lines" "I" ∈ zGW := List.mem_filter.mpr ⟨List.mem_of_getElem? (i := 292) (by decide +kernel), by decide +kernel⟩
theorem mm_294 : Cond.lays RX2 "TwoFit$Book" "live" "I" ∈ zGW := List.mem_filter.mpr ⟨List.mem_of_getElem? (i := 294) (by decide +kernel), by decide +kernel⟩
theorem mm_296 : Cond.lays RX2 "TwoFit$Book" "isShown" "Z" ∈ zGW := List.mem_filter.mpr ⟨List.mem_of_getElem? (i := 296) (by decide +kernel), by decide +kernel⟩
theorem mm_298 : Cond.laysFinal RX2 "TwoFit$Book" "owners" "[I" ∈ zGW := List.mem_filter.mpr ⟨List.mem_of_getElem? (i := 298) (by decide +kernel), by decide +kernel⟩
theorem mm_300 : Cond.laysFinal RX2 "TwoFit$Book" "nodes" "[[I" ∈ zGW := List.mem_filter.mpr ⟨List.mem_of_getElem? (i := 300) (by decide +kernel), by decide +kernel⟩
theorem mm_265 : Cond.lays RX3 "TwoFit$Column" "weighs" "I" ∈ zGW := List.mem_filter.mpr ⟨List.mem_of_getElem? (i := 265) (by decide +kernel), by decide +kernel⟩
theorem mm_267 : Cond.laysFinal RX3 "TwoFit$Column" "above" "[I" ∈ zGW := List.mem_filter.mpr ⟨List.mem_of_getElem? (i := 267) (by decide +kernel), by decide +kernel⟩
theorem mm_269 : Cond.laysFinal RX3 "TwoFit$Column" "sizes" "[I" ∈ zGW := List.mem_filter.mpr ⟨List.mem_of_getElem? (i := 269) (by decide +kernel), by decide +kernel⟩
theorem mm_271 : Cond.laysFinal RX3 "TwoFit$Column" "who" "[I" ∈ zGW := List.mem_filter.mpr ⟨List.mem_of_getElem? (i := 271) (by decide +kernel), by decide +kernel⟩
theorem mm_273 : Cond.laysFinal RX3 "TwoFit$Column" "values" "[I" ∈ zGW := List.mem_filter.mpr ⟨List.mem_of_getElem? (i := 273) (by decide +kernel), by decide +kernel⟩
theorem mm_275 : Cond.lays RX3 "TwoFit$Column" "settled" "I" ∈ zGW := List.mem_filter.mpr ⟨List.mem_of_getElem? (i := 275) (by decide +kernel), by decide +kernel⟩
theorem mm_230 : Cond.lays RX4 "TwoFit$Gossip" "isTold" "Z" ∈ zGW := List.mem_filter.mpr ⟨List.mem_of_getElem? (i := 230) (by decide +kernel), by decide +kernel⟩
theorem mm_232 : Cond.lays RX4 "TwoFit$Gossip" "ofBook" "I" ∈ zGW := List.mem_filter.mpr ⟨List.mem_of_getElem? (i := 232) (by decide +kernel), by decide +kernel⟩
theorem mm_234 : Cond.lays RX4 "TwoFit$Gossip" "holds" "I" ∈ zGW := List.mem_filter.mpr ⟨List.mem_of_getElem? (i := 234) (by decide +kernel), by decide +kernel⟩
theorem mm_236 : Cond.lays RX4 "TwoFit$Gossip" "fault" "I" ∈ zGW := List.mem_filter.mpr ⟨List.mem_of_getElem? (i := 236) (by decide +kernel), by decide +kernel⟩
theorem mm_238 : Cond.lays RX4 "TwoFit$Gossip" "faultAt" "I" ∈ zGW := List.mem_filter.mpr ⟨List.mem_of_getElem? (i := 238) (by decide +kernel), by decide +kernel⟩
theorem mm_240 : Cond.lays RX4 "TwoFit$Gossip" "ofLine" "I" ∈ zGW := List.mem_filter.mpr ⟨List.mem_of_getElem? (i := 240) (by decide +kernel), by decide +kernel⟩
theorem mm_242 : Cond.laysFinal RX4 "TwoFit$Gossip" "letters" "[I" ∈ zGW := List.mem_filter.mpr ⟨List.mem_of_getElem? (i := 242) (by decide +kernel), by decide +kernel⟩
theorem mm_244 : Cond.laysFinal RX4 "TwoFit$Gossip" "text" "[I" ∈ zGW := List.mem_filter.mpr ⟨List.mem_of_getElem? (i := 244) (by decide +kernel), by decide +kernel⟩
theorem mm_246 : Cond.lays RX4 "TwoFit$Gossip" "length" "I" ∈ zGW := List.mem_filter.mpr ⟨List.mem_of_getElem? (i := 246) (by decide +kernel), by decide +kernel⟩
theorem mm_248 : Cond.lays RX4 "TwoFit$Gossip" "at" "I" ∈ zGW := List.mem_filter.mpr ⟨List.mem_of_getElem? (i := 248) (by decide +kernel), by decide +kernel⟩
theorem mm_250 : Cond.lays RX4 "TwoFit$Gossip" "refused" "Z" ∈ zGW := List.mem_filter.mpr ⟨List.mem_of_getElem? (i := 250) (by decide +kernel), by decide +kernel⟩
theorem mm_100 : Cond.lays RX5 "TwoFit$Links" "number" "I" ∈ zGW := List.mem_filter.mpr ⟨List.mem_of_getElem? (i := 100) (by decide +kernel), by decide +kernel⟩
theorem mm_102 : Cond.laysFinal RX5 "TwoFit$Links" "from" "[I" ∈ zGW := List.mem_filter.mpr ⟨List.mem_of_getElem? (i := 102) (by decide +kernel), by decide +kernel⟩
theorem mm_104 : Cond.laysFinal RX5 "TwoFit$Links" "to" "[I" ∈ zGW := List.mem_filter.mpr ⟨List.mem_of_getElem? (i := 104) (by decide +kernel), by decide +kernel⟩
theorem mm_132 : Cond.lays RX6 "TwoFit$Matching" "lines" "I" ∈ zGW := List.mem_filter.mpr ⟨List.mem_of_getElem? (i := 132) (by decide +kernel), by decide +kernel⟩
theorem mm_134 : Cond.lays RX6 "TwoFit$Matching" "live" "I" ∈ zGW := List.mem_filter.mpr ⟨List.mem_of_getElem? (i := 134) (by decide +kernel), by decide +kernel⟩
theorem mm_136 : Cond.lays RX6 "TwoFit$Matching" "lacking" "I" ∈ zGW := List.mem_filter.mpr ⟨List.mem_of_getElem? (i := 136) (by decide +kernel), by decide +kernel⟩
theorem mm_138 : Cond.lays RX6 "TwoFit$Matching" "found" "I" ∈ zGW := List.mem_filter.mpr ⟨List.mem_of_getElem? (i := 138) (by decide +kernel), by decide +kernel⟩
theorem mm_140 : Cond.laysFinal RX6 "TwoFit$Matching" "laid" "[I" ∈ zGW := List.mem_filter.mpr ⟨List.mem_of_getElem? (i := 140) (by decide +kernel), by decide +kernel⟩
theorem mm_142 : Cond.laysFinal RX6 "TwoFit$Matching" "fit" "[I" ∈ zGW := List.mem_filter.mpr ⟨List.mem_of_getElem? (i := 142) (by decide +kernel), by decide +kernel⟩
theorem mm_144 : Cond.laysFinal RX6 "TwoFit$Matching" "may" "[I" ∈ zGW := List.mem_filter.mpr ⟨List.mem_of_getElem? (i := 144) (by decide +kernel), by decide +kernel⟩
theorem mm_146 : Cond.laysFinal RX6 "TwoFit$Matching" "joint" "[I" ∈ zGW := List.mem_filter.mpr ⟨List.mem_of_getElem? (i := 146) (by decide +kernel), by decide +kernel⟩
theorem mm_148 : Cond.laysFinal RX6 "TwoFit$Matching" "ways" "[J" ∈ zGW := List.mem_filter.mpr ⟨List.mem_of_getElem? (i := 148) (by decide +kernel), by decide +kernel⟩
theorem mm_150 : Cond.laysFinal RX6 "TwoFit$Matching" "left" "[I" ∈ zGW := List.mem_filter.mpr ⟨List.mem_of_getElem? (i := 150) (by decide +kernel), by decide +kernel⟩
theorem mm_82 : Cond.lays RX7 "TwoFit$Tape" "length" "I" ∈ zGW := List.mem_filter.mpr ⟨List.mem_of_getElem? (i := 82) (by decide +kernel), by decide +kernel⟩
theorem mm_84 : Cond.laysFinal RX7 "TwoFit$Tape" "bytes" "[I" ∈ zGW := List.mem_filter.mpr ⟨List.mem_of_getElem? (i := 84) (by decide +kernel), by decide +kernel⟩
theorem mm_316 : Cond.laysFinal RX8 "TwoFit" "columns" "[LTwoFit$Column;" ∈ zGW := List.mem_filter.mpr ⟨List.mem_of_getElem? (i := 316) (by decide +kernel), by decide +kernel⟩
theorem mm_318 : Cond.laysFinal RX8 "TwoFit" "wishes" "[I" ∈ zGW := List.mem_filter.mpr ⟨List.mem_of_getElem? (i := 318) (by decide +kernel), by decide +kernel⟩
theorem mm_320 : Cond.laysFinal RX8 "TwoFit" "tape" "LTwoFit$Tape;" ∈ zGW := List.mem_filter.mpr ⟨List.mem_of_getElem? (i := 320) (by decide +kernel), by decide +kernel⟩
theorem mm_322 : Cond.laysFinal RX8 "TwoFit" "books" "[LTwoFit$Book;" ∈ zGW := List.mem_filter.mpr ⟨List.mem_of_getElem? (i := 322) (by decide +kernel), by decide +kernel⟩
theorem mm_324 : Cond.laysFinal RX8 "TwoFit" "links" "LTwoFit$Links;" ∈ zGW := List.mem_filter.mpr ⟨List.mem_of_getElem? (i := 324) (by decide +kernel), by decide +kernel⟩
theorem mm_326 : Cond.laysFinal RX8 "TwoFit" "gossips" "[LTwoFit$Gossip;" ∈ zGW := List.mem_filter.mpr ⟨List.mem_of_getElem? (i := 326) (by decide +kernel), by decide +kernel⟩
theorem mm_328 : Cond.laysFinal RX8 "TwoFit" "matching" "LTwoFit$Matching;" ∈ zGW := List.mem_filter.mpr ⟨List.mem_of_getElem? (i := 328) (by decide +kernel), by decide +kernel⟩
theorem mm_330 : Cond.laysFinal RX8 "TwoFit" "asking" "LTwoFit$Asking;" ∈ zGW := List.mem_filter.mpr ⟨List.mem_of_getElem? (i := 330) (by decide +kernel), by decide +kernel⟩
theorem mm_332 : Cond.laysFinal RX8 "TwoFit" "blurs" "LTwoFit$Blurs;" ∈ zGW := List.mem_filter.mpr ⟨List.mem_of_getElem? (i := 332) (by decide +kernel), by decide +kernel⟩
theorem mm_334 : Cond.laysFinal RX8 "TwoFit" "letters" "[I" ∈ zGW := List.mem_filter.mpr ⟨List.mem_of_getElem? (i := 334) (by decide +kernel), by decide +kernel⟩
theorem mm_336 : Cond.lays RX8 "TwoFit" "draft" "LTwoFit$Gossip;" ∈ zGW := List.mem_filter.mpr ⟨List.mem_of_getElem? (i := 336) (by decide +kernel), by decide +kernel⟩
theorem mm_338 : Cond.lays RX8 "TwoFit" "people" "I" ∈ zGW := List.mem_filter.mpr ⟨List.mem_of_getElem? (i := 338) (by decide +kernel), by decide +kernel⟩
theorem mm_340 : Cond.lays RX8 "TwoFit" "bookCount" "I" ∈ zGW := List.mem_filter.mpr ⟨List.mem_of_getElem? (i := 340) (by decide +kernel), by decide +kernel⟩
set_option maxRecDepth 20000 in
theorem inG0 : ∀ w ∈ u_ws RX0 TX0 5, w ∈ zGW := List.forall_mem_cons.mpr ⟨mm_165, List.forall_mem_cons.mpr ⟨mm_167, List.forall_mem_cons.mpr ⟨mm_169, List.forall_mem_cons.mpr ⟨mm_171, List.forall_mem_cons.mpr ⟨mm_173, fun _ h => absurd h List.not_mem_nil⟩⟩⟩⟩⟩
set_option maxRecDepth 20000 in
theorem inG1 : ∀ w ∈ u_ws RX1 TX1 7, w ∈ zGW := List.forall_mem_cons.mpr ⟨mm_194, List.forall_mem_cons.mpr ⟨mm_196, List.forall_mem_cons.mpr ⟨mm_198, List.forall_mem_cons.mpr ⟨mm_200, List.forall_mem_cons.mpr ⟨mm_202, List.forall_mem_cons.mpr ⟨mm_204, List.forall_mem_cons.mpr ⟨mm_206, fun _ h => absurd h List.not_mem_nil⟩⟩⟩⟩⟩⟩⟩
set_option maxRecDepth 20000 in
theorem inG2 : ∀ w ∈ u_ws RX2 TX2 5, w ∈ zGW := List.forall_mem_cons.mpr ⟨mm_292, List.forall_mem_cons.mpr ⟨mm_294, List.forall_mem_cons.mpr ⟨mm_296, List.forall_mem_cons.mpr ⟨mm_298, List.forall_mem_cons.mpr ⟨mm_300, fun _ h => absurd h List.not_mem_nil⟩⟩⟩⟩⟩
set_option maxRecDepth 20000 in
theorem inG3 : ∀ w ∈ u_ws RX3 TX3 6, w ∈ zGW := List.forall_mem_cons.mpr ⟨mm_265, List.forall_mem_cons.mpr ⟨mm_267, List.forall_mem_cons.mpr ⟨mm_269, List.forall_mem_cons.mpr ⟨mm_271, List.forall_mem_cons.mpr ⟨mm_273, List.forall_mem_cons.mpr ⟨mm_275, fun _ h => absurd h List.not_mem_nil⟩⟩⟩⟩⟩⟩
set_option maxRecDepth 20000 in
theorem inG4 : ∀ w ∈ u_ws RX4 TX4 11, w ∈ zGW := List.forall_mem_cons.mpr ⟨mm_230, List.forall_mem_cons.mpr ⟨mm_232, List.forall_mem_cons.mpr ⟨mm_234, List.forall_mem_cons.mpr ⟨mm_236, List.forall_mem_cons.mpr ⟨mm_238, List.forall_mem_cons.mpr ⟨mm_240, List.forall_mem_cons.mpr ⟨mm_242, List.forall_mem_cons.mpr ⟨mm_244, List.forall_mem_cons.mpr ⟨mm_246, List.forall_mem_cons.mpr ⟨mm_248, List.forall_mem_cons.mpr ⟨mm_250, fun _ h => absurd h List.not_mem_nil⟩⟩⟩⟩⟩⟩⟩⟩⟩⟩⟩
set_option maxRecDepth 20000 in
theorem inG5 : ∀ w ∈ u_ws RX5 TX5 3, w ∈ zGW := List.forall_mem_cons.mpr ⟨mm_100, List.forall_mem_cons.mpr ⟨mm_102, List.forall_mem_cons.mpr ⟨mm_104, fun _ h => absurd h List.not_mem_nil⟩⟩⟩
set_option maxRecDepth 20000 in
theorem inG6 : ∀ w ∈ u_ws RX6 TX6 10, w ∈ zGW := List.forall_mem_cons.mpr ⟨mm_132, List.forall_mem_cons.mpr ⟨mm_134, List.forall_mem_cons.mpr ⟨mm_136, List.forall_mem_cons.mpr ⟨mm_138, List.forall_mem_cons.mpr ⟨mm_140, List.forall_mem_cons.mpr ⟨mm_142, List.forall_mem_cons.mpr ⟨mm_144, List.forall_mem_cons.mpr ⟨mm_146, List.forall_mem_cons.mpr ⟨mm_148, List.forall_mem_cons.mpr ⟨mm_150, fun _ h => absurd h List.not_mem_nil⟩⟩⟩⟩⟩⟩⟩⟩⟩⟩
set_option maxRecDepth 20000 in
theorem inG7 : ∀ w ∈ u_ws RX7 TX7 2, w ∈ zGW := List.forall_mem_cons.mpr ⟨mm_82, List.forall_mem_cons.mpr ⟨mm_84, fun _ h => absurd h List.not_mem_nil⟩⟩
set_option maxRecDepth 20000 in
theorem inG8 : ∀ w ∈ u_ws RX8 TX8 13, w ∈ zGW := List.forall_mem_cons.mpr ⟨mm_316, List.forall_mem_cons.mpr ⟨mm_318, List.forall_mem_cons.mpr ⟨mm_320, List.forall_mem_cons.mpr ⟨mm_322, List.forall_mem_cons.mpr ⟨mm_324, List.forall_mem_cons.mpr ⟨mm_326, List.forall_mem_cons.mpr ⟨mm_328, List.forall_mem_cons.mpr ⟨mm_330, List.forall_mem_cons.mpr ⟨mm_332, List.forall_mem_cons.mpr ⟨mm_334, List.forall_mem_cons.mpr ⟨mm_336, List.forall_mem_cons.mpr ⟨mm_338, List.forall_mem_cons.mpr ⟨mm_340, fun _ h => absurd h List.not_mem_nil⟩⟩⟩⟩⟩⟩⟩⟩⟩⟩⟩⟩⟩
