theorem mm_0 : Cond.selects RX3 yX3_climb yX3_climb ∈ zGW := List.mem_filter.mpr ⟨List.mem_of_getElem? (i := 0) (by decide +kernel), by decide +kernel⟩
theorem mm_1 : Cond.selects RX8 yX8_judgeAll yX8_judgeAll ∈ zGW := List.mem_filter.mpr ⟨List.mem_of_getElem? (i := 1) (by decide +kernel), by decide +kernel⟩
theorem mm_2 : Cond.selects RX8 yX8_spell yX8_spell ∈ zGW := List.mem_filter.mpr ⟨List.mem_of_getElem? (i := 2) (by decide +kernel), by decide +kernel⟩
theorem mm_3 : Cond.selects RX8 yX8_isPerson yX8_isPerson ∈ zGW := List.mem_filter.mpr ⟨List.mem_of_getElem? (i := 3) (by decide +kernel), by decide +kernel⟩
theorem mm_4 : Cond.selects RX4 yX4_start yX4_start ∈ zGW := List.mem_filter.mpr ⟨List.mem_of_getElem? (i := 4) (by decide +kernel), by decide +kernel⟩
theorem mm_5 : Cond.selects RX4 yX4_anyOf yX4_anyOf ∈ zGW := List.mem_filter.mpr ⟨List.mem_of_getElem? (i := 5) (by decide +kernel), by decide +kernel⟩
theorem mm_6 : Cond.selects RX4 yX4_allOf yX4_allOf ∈ zGW := List.mem_filter.mpr ⟨List.mem_of_getElem? (i := 6) (by decide +kernel), by decide +kernel⟩
theorem mm_7 : Cond.selects RX4 yX4_piece yX4_piece ∈ zGW := List.mem_filter.mpr ⟨List.mem_of_getElem? (i := 7) (by decide +kernel), by decide +kernel⟩
theorem mm_8 : Cond.selects RX4 yX4_next yX4_next ∈ zGW := List.mem_filter.mpr ⟨List.mem_of_getElem? (i := 8) (by decide +kernel), by decide +kernel⟩
theorem mm_9 : Cond.selects RX4 yX4_opens yX4_opens ∈ zGW := List.mem_filter.mpr ⟨List.mem_of_getElem? (i := 9) (by decide +kernel), by decide +kernel⟩
theorem mm_10 : Cond.selects RX4 yX4_fail yX4_fail ∈ zGW := List.mem_filter.mpr ⟨List.mem_of_getElem? (i := 10) (by decide +kernel), by decide +kernel⟩
theorem mm_11 : Cond.selects RX4 yX4_expect yX4_expect ∈ zGW := List.mem_filter.mpr ⟨List.mem_of_getElem? (i := 11) (by decide +kernel), by decide +kernel⟩
theorem mm_12 : Cond.selects RX4 yX4_sum yX4_sum ∈ zGW := List.mem_filter.mpr ⟨List.mem_of_getElem? (i := 12) (by decide +kernel), by decide +kernel⟩
theorem mm_13 : Cond.selects RX4 yX4_product yX4_product ∈ zGW := List.mem_filter.mpr ⟨List.mem_of_getElem? (i := 13) (by decide +kernel), by decide +kernel⟩
theorem mm_14 : Cond.selects RX4 yX4_factor yX4_factor ∈ zGW := List.mem_filter.mpr ⟨List.mem_of_getElem? (i := 14) (by decide +kernel), by decide +kernel⟩
theorem mm_15 : Cond.selects RX4 yX4_numeral yX4_numeral ∈ zGW := List.mem_filter.mpr ⟨List.mem_of_getElem? (i := 15) (by decide +kernel), by decide +kernel⟩
theorem mm_16 : Cond.selects RX8 yX8_tellsPeople yX8_tellsPeople ∈ zGW := List.mem_filter.mpr ⟨List.mem_of_getElem? (i := 16) (by decide +kernel), by decide +kernel⟩
theorem mm_17 : Cond.selects RX8 yX8_fillColumn yX8_fillColumn ∈ zGW := List.mem_filter.mpr ⟨List.mem_of_getElem? (i := 17) (by decide +kernel), by decide +kernel⟩
theorem mm_18 : Cond.selects RX8 yX8_isLive yX8_isLive ∈ zGW := List.mem_filter.mpr ⟨List.mem_of_getElem? (i := 18) (by decide +kernel), by decide +kernel⟩
theorem mm_19 : Cond.selects RX8 yX8_isLine yX8_isLine ∈ zGW := List.mem_filter.mpr ⟨List.mem_of_getElem? (i := 19) (by decide +kernel), by decide +kernel⟩
theorem mm_20 : Cond.selects RX8 yX8_isBook yX8_isBook ∈ zGW := List.mem_filter.mpr ⟨List.mem_of_getElem? (i := 20) (by decide +kernel), by decide +kernel⟩
theorem mm_21 : Cond.selects RX8 yX8_fit yX8_fit ∈ zGW := List.mem_filter.mpr ⟨List.mem_of_getElem? (i := 21) (by decide +kernel), by decide +kernel⟩
theorem mm_22 : Cond.selects RX8 yX8_openFor yX8_openFor ∈ zGW := List.mem_filter.mpr ⟨List.mem_of_getElem? (i := 22) (by decide +kernel), by decide +kernel⟩
theorem mm_23 : Cond.selects RX8 yX8_shownBooks yX8_shownBooks ∈ zGW := List.mem_filter.mpr ⟨List.mem_of_getElem? (i := 23) (by decide +kernel), by decide +kernel⟩
theorem mm_24 : Cond.selects RX8 yX8_layOut yX8_layOut ∈ zGW := List.mem_filter.mpr ⟨List.mem_of_getElem? (i := 24) (by decide +kernel), by decide +kernel⟩
theorem mm_25 : Cond.selects RX8 yX8_fitLaid yX8_fitLaid ∈ zGW := List.mem_filter.mpr ⟨List.mem_of_getElem? (i := 25) (by decide +kernel), by decide +kernel⟩
theorem mm_26 : Cond.selects RX8 yX8_fitAll yX8_fitAll ∈ zGW := List.mem_filter.mpr ⟨List.mem_of_getElem? (i := 26) (by decide +kernel), by decide +kernel⟩
theorem mm_27 : Cond.selects RX8 yX8_fitAlone yX8_fitAlone ∈ zGW := List.mem_filter.mpr ⟨List.mem_of_getElem? (i := 27) (by decide +kernel), by decide +kernel⟩
theorem mm_28 : Cond.selects RX6 yX6_giveTo yX6_giveTo ∈ zGW := List.mem_filter.mpr ⟨List.mem_of_getElem? (i := 28) (by decide +kernel), by decide +kernel⟩
theorem mm_29 : Cond.selects RX6 yX6_weighSet yX6_weighSet ∈ zGW := List.mem_filter.mpr ⟨List.mem_of_getElem? (i := 29) (by decide +kernel), by decide +kernel⟩
theorem mm_30 : Cond.selects RX6 yX6_findSome yX6_findSome ∈ zGW := List.mem_filter.mpr ⟨List.mem_of_getElem? (i := 30) (by decide +kernel), by decide +kernel⟩
theorem mm_31 : Cond.selects RX8 yX8_safeLines yX8_safeLines ∈ zGW := List.mem_filter.mpr ⟨List.mem_of_getElem? (i := 31) (by decide +kernel), by decide +kernel⟩
theorem mm_32 : Cond.selects RX8 yX8_fewestGossips yX8_fewestGossips ∈ zGW := List.mem_filter.mpr ⟨List.mem_of_getElem? (i := 32) (by decide +kernel), by decide +kernel⟩
theorem mm_33 : Cond.selects RX8 yX8_mayLaid yX8_mayLaid ∈ zGW := List.mem_filter.mpr ⟨List.mem_of_getElem? (i := 33) (by decide +kernel), by decide +kernel⟩
theorem mm_34 : Cond.selects RX8 yX8_someAlike yX8_someAlike ∈ zGW := List.mem_filter.mpr ⟨List.mem_of_getElem? (i := 34) (by decide +kernel), by decide +kernel⟩
theorem mm_35 : Cond.selects RX0 yX0_makeRoom yX0_makeRoom ∈ zGW := List.mem_filter.mpr ⟨List.mem_of_getElem? (i := 35) (by decide +kernel), by decide +kernel⟩
theorem mm_36 : Cond.selects RX0 yX0_addSplit yX0_addSplit ∈ zGW := List.mem_filter.mpr ⟨List.mem_of_getElem? (i := 36) (by decide +kernel), by decide +kernel⟩
theorem mm_37 : Cond.selects RX0 yX0_areEnough yX0_areEnough ∈ zGW := List.mem_filter.mpr ⟨List.mem_of_getElem? (i := 37) (by decide +kernel), by decide +kernel⟩
theorem mm_38 : Cond.selects RX0 yX0_atLeast yX0_atLeast ∈ zGW := List.mem_filter.mpr ⟨List.mem_of_getElem? (i := 38) (by decide +kernel), by decide +kernel⟩
theorem mm_39 : Cond.selects RX0 yX0_keep yX0_keep ∈ zGW := List.mem_filter.mpr ⟨List.mem_of_getElem? (i := 39) (by decide +kernel), by decide +kernel⟩
theorem mm_40 : Cond.selects RX0 yX0_areEnoughBy yX0_areEnoughBy ∈ zGW := List.mem_filter.mpr ⟨List.mem_of_getElem? (i := 40) (by decide +kernel), by decide +kernel⟩
theorem mm_41 : Cond.selects RX8 yX8_firstQuestion yX8_firstQuestion ∈ zGW := List.mem_filter.mpr ⟨List.mem_of_getElem? (i := 41) (by decide +kernel), by decide +kernel⟩
theorem mm_42 : Cond.selects RX8 yX8_prepareBlurs yX8_prepareBlurs ∈ zGW := List.mem_filter.mpr ⟨List.mem_of_getElem? (i := 42) (by decide +kernel), by decide +kernel⟩
theorem mm_43 : Cond.selects RX8 yX8_prepareBlursOf yX8_prepareBlursOf ∈ zGW := List.mem_filter.mpr ⟨List.mem_of_getElem? (i := 43) (by decide +kernel), by decide +kernel⟩
theorem mm_44 : Cond.selects RX1 yX1_tryRow yX1_tryRow ∈ zGW := List.mem_filter.mpr ⟨List.mem_of_getElem? (i := 44) (by decide +kernel), by decide +kernel⟩
theorem mm_45 : Cond.selects RX1 yX1_whoFits yX1_whoFits ∈ zGW := List.mem_filter.mpr ⟨List.mem_of_getElem? (i := 45) (by decide +kernel), by decide +kernel⟩
theorem mm_46 : Cond.selects RX1 yX1_lossOf yX1_lossOf ∈ zGW := List.mem_filter.mpr ⟨List.mem_of_getElem? (i := 46) (by decide +kernel), by decide +kernel⟩
theorem mm_47 : Cond.selects RX8 yX8_safeIfSwapped yX8_safeIfSwapped ∈ zGW := List.mem_filter.mpr ⟨List.mem_of_getElem? (i := 47) (by decide +kernel), by decide +kernel⟩
theorem mm_48 : Cond.selects RX8 yX8_firstBared yX8_firstBared ∈ zGW := List.mem_filter.mpr ⟨List.mem_of_getElem? (i := 48) (by decide +kernel), by decide +kernel⟩
theorem mm_49 : Cond.selects RX8 yX8_lossOfLine yX8_lossOfLine ∈ zGW := List.mem_filter.mpr ⟨List.mem_of_getElem? (i := 49) (by decide +kernel), by decide +kernel⟩
theorem mm_50 : Cond.selects RX8 yX8_toldGossips yX8_toldGossips ∈ zGW := List.mem_filter.mpr ⟨List.mem_of_getElem? (i := 50) (by decide +kernel), by decide +kernel⟩
theorem mm_51 : Cond.selects RX9 yX9_isPerson yX9_isPerson ∈ zGW := List.mem_filter.mpr ⟨List.mem_of_getElem? (i := 51) (by decide +kernel), by decide +kernel⟩
theorem mm_52 : Cond.selects RX9 yX9_blurs yX9_blurs ∈ zGW := List.mem_filter.mpr ⟨List.mem_of_getElem? (i := 52) (by decide +kernel), by decide +kernel⟩
theorem mm_53 : Cond.selects RX9 yX9_sizeOf yX9_sizeOf ∈ zGW := List.mem_filter.mpr ⟨List.mem_of_getElem? (i := 53) (by decide +kernel), by decide +kernel⟩
theorem mm_54 : Cond.selects RX9 yX9_isBelow yX9_isBelow ∈ zGW := List.mem_filter.mpr ⟨List.mem_of_getElem? (i := 54) (by decide +kernel), by decide +kernel⟩
theorem mm_55 : Cond.selects RX9 yX9_areTold yX9_areTold ∈ zGW := List.mem_filter.mpr ⟨List.mem_of_getElem? (i := 55) (by decide +kernel), by decide +kernel⟩
theorem mm_56 : Cond.selects RX9 yX9_isThere yX9_isThere ∈ zGW := List.mem_filter.mpr ⟨List.mem_of_getElem? (i := 56) (by decide +kernel), by decide +kernel⟩
theorem mm_57 : Cond.selects RX9 yX9_isLine yX9_isLine ∈ zGW := List.mem_filter.mpr ⟨List.mem_of_getElem? (i := 57) (by decide +kernel), by decide +kernel⟩
theorem mm_58 : Cond.selects RX9 yX9_isBook yX9_isBook ∈ zGW := List.mem_filter.mpr ⟨List.mem_of_getElem? (i := 58) (by decide +kernel), by decide +kernel⟩
theorem mm_59 : Cond.selects RX9 yX9_canSwap yX9_canSwap ∈ zGW := List.mem_filter.mpr ⟨List.mem_of_getElem? (i := 59) (by decide +kernel), by decide +kernel⟩
theorem mm_60 : Cond.selects RX9 yX9_swaps yX9_swaps ∈ zGW := List.mem_filter.mpr ⟨List.mem_of_getElem? (i := 60) (by decide +kernel), by decide +kernel⟩
theorem mm_61 : Cond.selects RX9 yX9_types yX9_types ∈ zGW := List.mem_filter.mpr ⟨List.mem_of_getElem? (i := 61) (by decide +kernel), by decide +kernel⟩
theorem mm_62 : Cond.selects RX9 yX9_readsWhole yX9_readsWhole ∈ zGW := List.mem_filter.mpr ⟨List.mem_of_getElem? (i := 62) (by decide +kernel), by decide +kernel⟩
theorem mm_63 : Cond.selects RX9 yX9_here yX9_here ∈ zGW := List.mem_filter.mpr ⟨List.mem_of_getElem? (i := 63) (by decide +kernel), by decide +kernel⟩
theorem mm_64 : Cond.selects RX9 yX9_opens yX9_opens ∈ zGW := List.mem_filter.mpr ⟨List.mem_of_getElem? (i := 64) (by decide +kernel), by decide +kernel⟩
theorem mm_65 : Cond.selects RX9 yX9_wrongAt yX9_wrongAt ∈ zGW := List.mem_filter.mpr ⟨List.mem_of_getElem? (i := 65) (by decide +kernel), by decide +kernel⟩
theorem mm_66 : Cond.selects RX9 yX9_readsCompared yX9_readsCompared ∈ zGW := List.mem_filter.mpr ⟨List.mem_of_getElem? (i := 66) (by decide +kernel), by decide +kernel⟩
theorem mm_67 : Cond.selects RX9 yX9_readsSum yX9_readsSum ∈ zGW := List.mem_filter.mpr ⟨List.mem_of_getElem? (i := 67) (by decide +kernel), by decide +kernel⟩
theorem mm_68 : Cond.selects RX9 yX9_readsFactor yX9_readsFactor ∈ zGW := List.mem_filter.mpr ⟨List.mem_of_getElem? (i := 68) (by decide +kernel), by decide +kernel⟩
theorem mm_69 : Cond.selects RX9 yX9_isDigit yX9_isDigit ∈ zGW := List.mem_filter.mpr ⟨List.mem_of_getElem? (i := 69) (by decide +kernel), by decide +kernel⟩
theorem mm_70 : Cond.selects RX9 yX9_readsNumber yX9_readsNumber ∈ zGW := List.mem_filter.mpr ⟨List.mem_of_getElem? (i := 70) (by decide +kernel), by decide +kernel⟩
theorem mm_71 : Cond.selects RX9 yX9_notes yX9_notes ∈ zGW := List.mem_filter.mpr ⟨List.mem_of_getElem? (i := 71) (by decide +kernel), by decide +kernel⟩
theorem mm_72 : Cond.selects RX9 yX9_closesSums yX9_closesSums ∈ zGW := List.mem_filter.mpr ⟨List.mem_of_getElem? (i := 72) (by decide +kernel), by decide +kernel⟩
theorem mm_73 : Cond.selects RX9 yX9_top yX9_top ∈ zGW := List.mem_filter.mpr ⟨List.mem_of_getElem? (i := 73) (by decide +kernel), by decide +kernel⟩
theorem mm_74 : Cond.selects RX9 yX9_hasOpenSum yX9_hasOpenSum ∈ zGW := List.mem_filter.mpr ⟨List.mem_of_getElem? (i := 74) (by decide +kernel), by decide +kernel⟩
theorem mm_75 : Cond.selects RX9 yX9_endsPiece yX9_endsPiece ∈ zGW := List.mem_filter.mpr ⟨List.mem_of_getElem? (i := 75) (by decide +kernel), by decide +kernel⟩
theorem mm_76 : Cond.selects RX9 yX9_closes yX9_closes ∈ zGW := List.mem_filter.mpr ⟨List.mem_of_getElem? (i := 76) (by decide +kernel), by decide +kernel⟩
theorem mm_77 : Cond.selects RX9 yX9_lands yX9_lands ∈ zGW := List.mem_filter.mpr ⟨List.mem_of_getElem? (i := 77) (by decide +kernel), by decide +kernel⟩
theorem mm_78 : Cond.selects RX9 yX9_jumps yX9_jumps ∈ zGW := List.mem_filter.mpr ⟨List.mem_of_getElem? (i := 78) (by decide +kernel), by decide +kernel⟩
theorem mm_79 : Cond.selects RX9 yX9_fitsOf yX9_fitsOf ∈ zGW := List.mem_filter.mpr ⟨List.mem_of_getElem? (i := 79) (by decide +kernel), by decide +kernel⟩
theorem mm_80 : Cond.selects RX9 yX9_mayLead yX9_mayLead ∈ zGW := List.mem_filter.mpr ⟨List.mem_of_getElem? (i := 80) (by decide +kernel), by decide +kernel⟩
theorem mm_81 : Cond.selects RX9 yX9_fitsAlone yX9_fitsAlone ∈ zGW := List.mem_filter.mpr ⟨List.mem_of_getElem? (i := 81) (by decide +kernel), by decide +kernel⟩
theorem mm_82 : Cond.selects RX9 yX9_isAlone yX9_isAlone ∈ zGW := List.mem_filter.mpr ⟨List.mem_of_getElem? (i := 82) (by decide +kernel), by decide +kernel⟩
theorem mm_83 : Cond.selects RX9 yX9_isSaidOf yX9_isSaidOf ∈ zGW := List.mem_filter.mpr ⟨List.mem_of_getElem? (i := 83) (by decide +kernel), by decide +kernel⟩
theorem mm_84 : Cond.selects RX9 yX9_comesTo yX9_comesTo ∈ zGW := List.mem_filter.mpr ⟨List.mem_of_getElem? (i := 84) (by decide +kernel), by decide +kernel⟩
theorem mm_85 : Cond.selects RX9 yX9_laysFitting yX9_laysFitting ∈ zGW := List.mem_filter.mpr ⟨List.mem_of_getElem? (i := 85) (by decide +kernel), by decide +kernel⟩
theorem mm_86 : Cond.selects RX9 yX9_counts yX9_counts ∈ zGW := List.mem_filter.mpr ⟨List.mem_of_getElem? (i := 86) (by decide +kernel), by decide +kernel⟩
theorem mm_87 : Cond.selects RX9 yX9_spreads yX9_spreads ∈ zGW := List.mem_filter.mpr ⟨List.mem_of_getElem? (i := 87) (by decide +kernel), by decide +kernel⟩
theorem mm_88 : Cond.selects RX9 yX9_isAsked yX9_isAsked ∈ zGW := List.mem_filter.mpr ⟨List.mem_of_getElem? (i := 88) (by decide +kernel), by decide +kernel⟩
theorem mm_89 : Cond.selects RX9 yX9_canAll yX9_canAll ∈ zGW := List.mem_filter.mpr ⟨List.mem_of_getElem? (i := 89) (by decide +kernel), by decide +kernel⟩
theorem mm_90 : Cond.selects RX9 yX9_findsOne yX9_findsOne ∈ zGW := List.mem_filter.mpr ⟨List.mem_of_getElem? (i := 90) (by decide +kernel), by decide +kernel⟩
theorem mm_91 : Cond.selects RX9 yX9_changesBack yX9_changesBack ∈ zGW := List.mem_filter.mpr ⟨List.mem_of_getElem? (i := 91) (by decide +kernel), by decide +kernel⟩
theorem mm_92 : Cond.selects RX9 yX9_maybe yX9_maybe ∈ zGW := List.mem_filter.mpr ⟨List.mem_of_getElem? (i := 92) (by decide +kernel), by decide +kernel⟩
theorem mm_93 : Cond.selects RX9 yX9_rounds yX9_rounds ∈ zGW := List.mem_filter.mpr ⟨List.mem_of_getElem? (i := 93) (by decide +kernel), by decide +kernel⟩
theorem mm_94 : Cond.selects RX9 yX9_isFound yX9_isFound ∈ zGW := List.mem_filter.mpr ⟨List.mem_of_getElem? (i := 94) (by decide +kernel), by decide +kernel⟩
theorem mm_95 : Cond.selects RX9 yX9_foundNow yX9_foundNow ∈ zGW := List.mem_filter.mpr ⟨List.mem_of_getElem? (i := 95) (by decide +kernel), by decide +kernel⟩
theorem mm_96 : Cond.selects RX9 yX9_safeOf yX9_safeOf ∈ zGW := List.mem_filter.mpr ⟨List.mem_of_getElem? (i := 96) (by decide +kernel), by decide +kernel⟩
theorem mm_97 : Cond.selects RX9 yX9_areOfBook yX9_areOfBook ∈ zGW := List.mem_filter.mpr ⟨List.mem_of_getElem? (i := 97) (by decide +kernel), by decide +kernel⟩
theorem mm_98 : Cond.selects RX9 yX9_isSure yX9_isSure ∈ zGW := List.mem_filter.mpr ⟨List.mem_of_getElem? (i := 98) (by decide +kernel), by decide +kernel⟩
theorem mm_99 : Cond.selects RX9 yX9_laysParts yX9_laysParts ∈ zGW := List.mem_filter.mpr ⟨List.mem_of_getElem? (i := 99) (by decide +kernel), by decide +kernel⟩
theorem mm_100 : Cond.selects RX9 yX9_laysEnough yX9_laysEnough ∈ zGW := List.mem_filter.mpr ⟨List.mem_of_getElem? (i := 100) (by decide +kernel), by decide +kernel⟩
theorem mm_101 : Cond.selects RX9 yX9_enoughBy yX9_enoughBy ∈ zGW := List.mem_filter.mpr ⟨List.mem_of_getElem? (i := 101) (by decide +kernel), by decide +kernel⟩
theorem mm_102 : Cond.selects RX9 yX9_lossBy yX9_lossBy ∈ zGW := List.mem_filter.mpr ⟨List.mem_of_getElem? (i := 102) (by decide +kernel), by decide +kernel⟩
theorem mm_103 : Cond.selects RX9 yX9_lossAt yX9_lossAt ∈ zGW := List.mem_filter.mpr ⟨List.mem_of_getElem? (i := 103) (by decide +kernel), by decide +kernel⟩
theorem mm_104 : Cond.selects RX9 yX9_fitsBlurred yX9_fitsBlurred ∈ zGW := List.mem_filter.mpr ⟨List.mem_of_getElem? (i := 104) (by decide +kernel), by decide +kernel⟩
theorem mm_105 : Cond.selects RX9 yX9_allLines yX9_allLines ∈ zGW := List.mem_filter.mpr ⟨List.mem_of_getElem? (i := 105) (by decide +kernel), by decide +kernel⟩
theorem mm_106 : Cond.selects RX9 yX9_tapeNumber yX9_tapeNumber ∈ zGW := List.mem_filter.mpr ⟨List.mem_of_getElem? (i := 106) (by decide +kernel), by decide +kernel⟩
theorem mm_108 : Cond.initialized RX8 ∈ zGW := List.mem_filter.mpr ⟨List.mem_of_getElem? (i := 108) (by decide +kernel), by decide +kernel⟩
theorem mm_109 : Cond.initialized RX7 ∈ zGW := List.mem_filter.mpr ⟨List.mem_of_getElem? (i := 109) (by decide +kernel), by decide +kernel⟩
theorem mm_110 : Cond.initialized RX5 ∈ zGW := List.mem_filter.mpr ⟨List.mem_of_getElem? (i := 110) (by decide +kernel), by decide +kernel⟩
theorem mm_111 : Cond.initialized RX6 ∈ zGW := List.mem_filter.mpr ⟨List.mem_of_getElem? (i := 111) (by decide +kernel), by decide +kernel⟩
theorem mm_112 : Cond.initialized RX0 ∈ zGW := List.mem_filter.mpr ⟨List.mem_of_getElem? (i := 112) (by decide +kernel), by decide +kernel⟩
theorem mm_113 : Cond.initialized RX1 ∈ zGW := List.mem_filter.mpr ⟨List.mem_of_getElem? (i := 113) (by decide +kernel), by decide +kernel⟩
theorem mm_114 : Cond.initialized RX4 ∈ zGW := List.mem_filter.mpr ⟨List.mem_of_getElem? (i := 114) (by decide +kernel), by decide +kernel⟩
theorem mm_115 : Cond.initialized RX3 ∈ zGW := List.mem_filter.mpr ⟨List.mem_of_getElem? (i := 115) (by decide +kernel), by decide +kernel⟩
theorem mm_116 : Cond.initialized RX2 ∈ zGW := List.mem_filter.mpr ⟨List.mem_of_getElem? (i := 116) (by decide +kernel), by decide +kernel⟩
theorem mm_117 : Cond.initialized RX9 ∈ zGW := List.mem_filter.mpr ⟨List.mem_of_getElem? (i := 117) (by decide +kernel), by decide +kernel⟩
theorem mm_118 : Cond.initialized "java/lang/Math" ∈ zGW := List.mem_filter.mpr ⟨List.mem_of_getElem? (i := 118) (by decide +kernel), by decide +kernel⟩
theorem mm_119 : Cond.initialized RJ6 ∈ zGW := List.mem_filter.mpr ⟨List.mem_of_getElem? (i := 119) (by decide +kernel), by decide +kernel⟩
theorem mm_120 : Cond.classLink RL 7 RX8 ∈ zGW := List.mem_filter.mpr ⟨List.mem_of_getElem? (i := 120) (by decide +kernel), by decide +kernel⟩
theorem mm_121 : Cond.instantiable RX8 13 ∈ zGW := List.mem_filter.mpr ⟨List.mem_of_getElem? (i := 121) (by decide +kernel), by decide +kernel⟩
theorem mm_122 : Cond.methodLink RL 9 yX8_init ∈ zGW := List.mem_filter.mpr ⟨List.mem_of_getElem? (i := 122) (by decide +kernel), by decide +kernel⟩
theorem mm_123 : Cond.instanceMethod yX8_init ∈ zGW := List.mem_filter.mpr ⟨List.mem_of_getElem? (i := 123) (by decide +kernel), by decide +kernel⟩
theorem mm_124 : Cond.code yX8_init cX8_init 2 none ∈ zGW := List.mem_filter.mpr ⟨List.mem_of_getElem? (i := 124) (by decide +kernel), by decide +kernel⟩
theorem mm_125 : Cond.methodLink RX8 1 objectInit ∈ zGW := List.mem_filter.mpr ⟨List.mem_of_getElem? (i := 125) (by decide +kernel), by decide +kernel⟩
theorem mm_126 : Cond.instanceMethod objectInit ∈ zGW := List.mem_filter.mpr ⟨List.mem_of_getElem? (i := 126) (by decide +kernel), by decide +kernel⟩
theorem mm_127 : Cond.code objectInit ⟨#[0xb1]⟩ 1 none ∈ zGW := List.mem_filter.mpr ⟨List.mem_of_getElem? (i := 127) (by decide +kernel), by decide +kernel⟩
theorem mm_128 : Cond.classLink RX8 9 RX3 ∈ zGW := List.mem_filter.mpr ⟨List.mem_of_getElem? (i := 128) (by decide +kernel), by decide +kernel⟩
theorem mm_130 : Cond.classLink RX8 19 RX7 ∈ zGW := List.mem_filter.mpr ⟨List.mem_of_getElem? (i := 130) (by decide +kernel), by decide +kernel⟩
theorem mm_131 : Cond.instantiable RX7 2 ∈ zGW := List.mem_filter.mpr ⟨List.mem_of_getElem? (i := 131) (by decide +kernel), by decide +kernel⟩
theorem mm_133 : Cond.instanceMethod yX7_init ∈ zGW := List.mem_filter.mpr ⟨List.mem_of_getElem? (i := 133) (by decide +kernel), by decide +kernel⟩
theorem mm_134 : Cond.code yX7_init cX7_init 1 none ∈ zGW := List.mem_filter.mpr ⟨List.mem_of_getElem? (i := 134) (by decide +kernel), by decide +kernel⟩
theorem mm_135 : Cond.methodLink RX7 3 objectInit ∈ zGW := List.mem_filter.mpr ⟨List.mem_of_getElem? (i := 135) (by decide +kernel), by decide +kernel⟩
theorem mm_136 : Cond.fieldLink RX7 9 "TwoFit$Tape" "length" "I" ∈ zGW := List.mem_filter.mpr ⟨List.mem_of_getElem? (i := 136) (by decide +kernel), by decide +kernel⟩
theorem mm_137 : Cond.fieldLink RX8 114 "TwoFit$Tape" "length" "I" ∈ zGW := List.mem_filter.mpr ⟨List.mem_of_getElem? (i := 137) (by decide +kernel), by decide +kernel⟩
theorem mm_138 : Cond.fieldLink RX7 15 "TwoFit$Tape" "bytes" "[I" ∈ zGW := List.mem_filter.mpr ⟨List.mem_of_getElem? (i := 138) (by decide +kernel), by decide +kernel⟩
theorem mm_144 : Cond.arrayClass .int ∈ zGW := List.mem_filter.mpr ⟨List.mem_of_getElem? (i := 144) (by decide +kernel), by decide +kernel⟩
theorem mm_145 : Cond.classLink RX8 26 RX2 ∈ zGW := List.mem_filter.mpr ⟨List.mem_of_getElem? (i := 145) (by decide +kernel), by decide +kernel⟩
theorem mm_147 : Cond.classLink RX8 32 RX5 ∈ zGW := List.mem_filter.mpr ⟨List.mem_of_getElem? (i := 147) (by decide +kernel), by decide +kernel⟩
theorem mm_148 : Cond.instantiable RX5 3 ∈ zGW := List.mem_filter.mpr ⟨List.mem_of_getElem? (i := 148) (by decide +kernel), by decide +kernel⟩
theorem mm_150 : Cond.instanceMethod yX5_init ∈ zGW := List.mem_filter.mpr ⟨List.mem_of_getElem? (i := 150) (by decide +kernel), by decide +kernel⟩
theorem mm_151 : Cond.code yX5_init cX5_init 1 none ∈ zGW := List.mem_filter.mpr ⟨List.mem_of_getElem? (i := 151) (by decide +kernel), by decide +kernel⟩
theorem mm_152 : Cond.methodLink RX5 3 objectInit ∈ zGW := List.mem_filter.mpr ⟨List.mem_of_getElem? (i := 152) (by decide +kernel), by decide +kernel⟩
theorem mm_153 : Cond.fieldLink RX5 9 "TwoFit$Links" "number" "I" ∈ zGW := List.mem_filter.mpr ⟨List.mem_of_getElem? (i := 153) (by decide +kernel), by decide +kernel⟩
theorem mm_154 : Cond.fieldLink RX8 171 "TwoFit$Links" "number" "I" ∈ zGW := List.mem_filter.mpr ⟨List.mem_of_getElem? (i := 154) (by decide +kernel), by decide +kernel⟩
theorem mm_155 : Cond.fieldLink RX5 15 "TwoFit$Links" "from" "[I" ∈ zGW := List.mem_filter.mpr ⟨List.mem_of_getElem? (i := 155) (by decide +kernel), by decide +kernel⟩
theorem mm_156 : Cond.fieldLink RX5 19 "TwoFit$Links" "to" "[I" ∈ zGW := List.mem_filter.mpr ⟨List.mem_of_getElem? (i := 156) (by decide +kernel), by decide +kernel⟩
theorem mm_164 : Cond.classLink RX8 39 RX4 ∈ zGW := List.mem_filter.mpr ⟨List.mem_of_getElem? (i := 164) (by decide +kernel), by decide +kernel⟩
theorem mm_166 : Cond.classLink RX8 45 RX6 ∈ zGW := List.mem_filter.mpr ⟨List.mem_of_getElem? (i := 166) (by decide +kernel), by decide +kernel⟩
theorem mm_167 : Cond.instantiable RX6 10 ∈ zGW := List.mem_filter.mpr ⟨List.mem_of_getElem? (i := 167) (by decide +kernel), by decide +kernel⟩
theorem mm_169 : Cond.instanceMethod yX6_init ∈ zGW := List.mem_filter.mpr ⟨List.mem_of_getElem? (i := 169) (by decide +kernel), by decide +kernel⟩
theorem mm_170 : Cond.code yX6_init cX6_init 1 none ∈ zGW := List.mem_filter.mpr ⟨List.mem_of_getElem? (i := 170) (by decide +kernel), by decide +kernel⟩
theorem mm_171 : Cond.methodLink RX6 3 objectInit ∈ zGW := List.mem_filter.mpr ⟨List.mem_of_getElem? (i := 171) (by decide +kernel), by decide +kernel⟩
theorem mm_172 : Cond.fieldLink RX6 9 "TwoFit$Matching" "lines" "I" ∈ zGW := List.mem_filter.mpr ⟨List.mem_of_getElem? (i := 172) (by decide +kernel), by decide +kernel⟩
theorem mm_173 : Cond.fieldLink RX8 340 "TwoFit$Matching" "lines" "I" ∈ zGW := List.mem_filter.mpr ⟨List.mem_of_getElem? (i := 173) (by decide +kernel), by decide +kernel⟩
theorem mm_174 : Cond.fieldLink RX6 15 "TwoFit$Matching" "live" "I" ∈ zGW := List.mem_filter.mpr ⟨List.mem_of_getElem? (i := 174) (by decide +kernel), by decide +kernel⟩
theorem mm_175 : Cond.fieldLink RX8 341 "TwoFit$Matching" "live" "I" ∈ zGW := List.mem_filter.mpr ⟨List.mem_of_getElem? (i := 175) (by decide +kernel), by decide +kernel⟩
theorem mm_176 : Cond.fieldLink RX6 18 "TwoFit$Matching" "lacking" "I" ∈ zGW := List.mem_filter.mpr ⟨List.mem_of_getElem? (i := 176) (by decide +kernel), by decide +kernel⟩
theorem mm_177 : Cond.fieldLink RX8 238 "TwoFit$Matching" "lacking" "I" ∈ zGW := List.mem_filter.mpr ⟨List.mem_of_getElem? (i := 177) (by decide +kernel), by decide +kernel⟩
theorem mm_178 : Cond.fieldLink RX6 21 "TwoFit$Matching" "found" "I" ∈ zGW := List.mem_filter.mpr ⟨List.mem_of_getElem? (i := 178) (by decide +kernel), by decide +kernel⟩
theorem mm_179 : Cond.fieldLink RX8 245 "TwoFit$Matching" "found" "I" ∈ zGW := List.mem_filter.mpr ⟨List.mem_of_getElem? (i := 179) (by decide +kernel), by decide +kernel⟩
theorem mm_180 : Cond.fieldLink RX6 24 "TwoFit$Matching" "laid" "[I" ∈ zGW := List.mem_filter.mpr ⟨List.mem_of_getElem? (i := 180) (by decide +kernel), by decide +kernel⟩
theorem mm_181 : Cond.fieldLink RX8 334 "TwoFit$Matching" "laid" "[I" ∈ zGW := List.mem_filter.mpr ⟨List.mem_of_getElem? (i := 181) (by decide +kernel), by decide +kernel⟩
theorem mm_182 : Cond.fieldLink RX6 28 "TwoFit$Matching" "fit" "[I" ∈ zGW := List.mem_filter.mpr ⟨List.mem_of_getElem? (i := 182) (by decide +kernel), by decide +kernel⟩
theorem mm_183 : Cond.fieldLink RX8 211 "TwoFit$Matching" "fit" "[I" ∈ zGW := List.mem_filter.mpr ⟨List.mem_of_getElem? (i := 183) (by decide +kernel), by decide +kernel⟩
theorem mm_184 : Cond.fieldLink RX6 31 "TwoFit$Matching" "may" "[I" ∈ zGW := List.mem_filter.mpr ⟨List.mem_of_getElem? (i := 184) (by decide +kernel), by decide +kernel⟩
theorem mm_185 : Cond.fieldLink RX8 227 "TwoFit$Matching" "may" "[I" ∈ zGW := List.mem_filter.mpr ⟨List.mem_of_getElem? (i := 185) (by decide +kernel), by decide +kernel⟩
theorem mm_186 : Cond.fieldLink RX6 34 "TwoFit$Matching" "joint" "[I" ∈ zGW := List.mem_filter.mpr ⟨List.mem_of_getElem? (i := 186) (by decide +kernel), by decide +kernel⟩
theorem mm_187 : Cond.fieldLink RX6 37 "TwoFit$Matching" "ways" "[J" ∈ zGW := List.mem_filter.mpr ⟨List.mem_of_getElem? (i := 187) (by decide +kernel), by decide +kernel⟩
theorem mm_188 : Cond.fieldLink RX6 41 "TwoFit$Matching" "left" "[I" ∈ zGW := List.mem_filter.mpr ⟨List.mem_of_getElem? (i := 188) (by decide +kernel), by decide +kernel⟩
theorem mm_210 : Cond.arrayClass .long ∈ zGW := List.mem_filter.mpr ⟨List.mem_of_getElem? (i := 210) (by decide +kernel), by decide +kernel⟩
theorem mm_211 : Cond.classLink RX8 52 RX0 ∈ zGW := List.mem_filter.mpr ⟨List.mem_of_getElem? (i := 211) (by decide +kernel), by decide +kernel⟩
theorem mm_212 : Cond.instantiable RX0 5 ∈ zGW := List.mem_filter.mpr ⟨List.mem_of_getElem? (i := 212) (by decide +kernel), by decide +kernel⟩
theorem mm_214 : Cond.instanceMethod yX0_init ∈ zGW := List.mem_filter.mpr ⟨List.mem_of_getElem? (i := 214) (by decide +kernel), by decide +kernel⟩
theorem mm_215 : Cond.code yX0_init cX0_init 1 none ∈ zGW := List.mem_filter.mpr ⟨List.mem_of_getElem? (i := 215) (by decide +kernel), by decide +kernel⟩
theorem mm_216 : Cond.methodLink RX0 3 objectInit ∈ zGW := List.mem_filter.mpr ⟨List.mem_of_getElem? (i := 216) (by decide +kernel), by decide +kernel⟩
theorem mm_217 : Cond.fieldLink RX0 9 "TwoFit$Asking" "splits" "[I" ∈ zGW := List.mem_filter.mpr ⟨List.mem_of_getElem? (i := 217) (by decide +kernel), by decide +kernel⟩
theorem mm_218 : Cond.fieldLink RX0 15 "TwoFit$Asking" "splitCount" "I" ∈ zGW := List.mem_filter.mpr ⟨List.mem_of_getElem? (i := 218) (by decide +kernel), by decide +kernel⟩
theorem mm_219 : Cond.fieldLink RX0 19 "TwoFit$Asking" "sizes" "[I" ∈ zGW := List.mem_filter.mpr ⟨List.mem_of_getElem? (i := 219) (by decide +kernel), by decide +kernel⟩
theorem mm_220 : Cond.fieldLink RX0 22 "TwoFit$Asking" "bounds" "[I" ∈ zGW := List.mem_filter.mpr ⟨List.mem_of_getElem? (i := 220) (by decide +kernel), by decide +kernel⟩
theorem mm_221 : Cond.fieldLink RX0 25 "TwoFit$Asking" "time" "I" ∈ zGW := List.mem_filter.mpr ⟨List.mem_of_getElem? (i := 221) (by decide +kernel), by decide +kernel⟩
theorem mm_233 : Cond.classLink RX8 59 RX1 ∈ zGW := List.mem_filter.mpr ⟨List.mem_of_getElem? (i := 233) (by decide +kernel), by decide +kernel⟩
theorem mm_234 : Cond.instantiable RX1 7 ∈ zGW := List.mem_filter.mpr ⟨List.mem_of_getElem? (i := 234) (by decide +kernel), by decide +kernel⟩
theorem mm_236 : Cond.instanceMethod yX1_init ∈ zGW := List.mem_filter.mpr ⟨List.mem_of_getElem? (i := 236) (by decide +kernel), by decide +kernel⟩
theorem mm_237 : Cond.code yX1_init cX1_init 1 none ∈ zGW := List.mem_filter.mpr ⟨List.mem_of_getElem? (i := 237) (by decide +kernel), by decide +kernel⟩
theorem mm_238 : Cond.methodLink RX1 3 objectInit ∈ zGW := List.mem_filter.mpr ⟨List.mem_of_getElem? (i := 238) (by decide +kernel), by decide +kernel⟩
theorem mm_239 : Cond.classLink RX1 21 "[[I" ∈ zGW := List.mem_filter.mpr ⟨List.mem_of_getElem? (i := 239) (by decide +kernel), by decide +kernel⟩
theorem mm_241 : Cond.fieldLink RX1 9 "TwoFit$Blurs" "least" "I" ∈ zGW := List.mem_filter.mpr ⟨List.mem_of_getElem? (i := 241) (by decide +kernel), by decide +kernel⟩
theorem mm_242 : Cond.fieldLink RX8 286 "TwoFit$Blurs" "least" "I" ∈ zGW := List.mem_filter.mpr ⟨List.mem_of_getElem? (i := 242) (by decide +kernel), by decide +kernel⟩
theorem mm_243 : Cond.fieldLink RX1 15 "TwoFit$Blurs" "leastRow" "I" ∈ zGW := List.mem_filter.mpr ⟨List.mem_of_getElem? (i := 243) (by decide +kernel), by decide +kernel⟩
theorem mm_244 : Cond.fieldLink RX8 291 "TwoFit$Blurs" "leastRow" "I" ∈ zGW := List.mem_filter.mpr ⟨List.mem_of_getElem? (i := 244) (by decide +kernel), by decide +kernel⟩
theorem mm_245 : Cond.fieldLink RX1 18 "TwoFit$Blurs" "leastCut" "I" ∈ zGW := List.mem_filter.mpr ⟨List.mem_of_getElem? (i := 245) (by decide +kernel), by decide +kernel⟩
theorem mm_246 : Cond.fieldLink RX8 288 "TwoFit$Blurs" "leastCut" "I" ∈ zGW := List.mem_filter.mpr ⟨List.mem_of_getElem? (i := 246) (by decide +kernel), by decide +kernel⟩
theorem mm_247 : Cond.fieldLink RX1 23 "TwoFit$Blurs" "who" "[[I" ∈ zGW := List.mem_filter.mpr ⟨List.mem_of_getElem? (i := 247) (by decide +kernel), by decide +kernel⟩
theorem mm_248 : Cond.fieldLink RX1 26 "TwoFit$Blurs" "losses" "[[I" ∈ zGW := List.mem_filter.mpr ⟨List.mem_of_getElem? (i := 248) (by decide +kernel), by decide +kernel⟩
theorem mm_249 : Cond.fieldLink RX1 29 "TwoFit$Blurs" "tops" "[I" ∈ zGW := List.mem_filter.mpr ⟨List.mem_of_getElem? (i := 249) (by decide +kernel), by decide +kernel⟩
theorem mm_250 : Cond.fieldLink RX1 33 "TwoFit$Blurs" "levels" "[I" ∈ zGW := List.mem_filter.mpr ⟨List.mem_of_getElem? (i := 250) (by decide +kernel), by decide +kernel⟩
theorem mm_266 : Cond.instantiable RX4 11 ∈ zGW := List.mem_filter.mpr ⟨List.mem_of_getElem? (i := 266) (by decide +kernel), by decide +kernel⟩
theorem mm_268 : Cond.instanceMethod yX4_init ∈ zGW := List.mem_filter.mpr ⟨List.mem_of_getElem? (i := 268) (by decide +kernel), by decide +kernel⟩
theorem mm_269 : Cond.code yX4_init cX4_init 1 none ∈ zGW := List.mem_filter.mpr ⟨List.mem_of_getElem? (i := 269) (by decide +kernel), by decide +kernel⟩
theorem mm_270 : Cond.methodLink RX4 3 objectInit ∈ zGW := List.mem_filter.mpr ⟨List.mem_of_getElem? (i := 270) (by decide +kernel), by decide +kernel⟩
theorem mm_271 : Cond.fieldLink RX4 9 "TwoFit$Gossip" "isTold" "Z" ∈ zGW := List.mem_filter.mpr ⟨List.mem_of_getElem? (i := 271) (by decide +kernel), by decide +kernel⟩
theorem mm_272 : Cond.fieldLink RX8 325 "TwoFit$Gossip" "isTold" "Z" ∈ zGW := List.mem_filter.mpr ⟨List.mem_of_getElem? (i := 272) (by decide +kernel), by decide +kernel⟩
theorem mm_273 : Cond.fieldLink RX4 15 "TwoFit$Gossip" "ofBook" "I" ∈ zGW := List.mem_filter.mpr ⟨List.mem_of_getElem? (i := 273) (by decide +kernel), by decide +kernel⟩
theorem mm_274 : Cond.fieldLink RX8 372 "TwoFit$Gossip" "ofBook" "I" ∈ zGW := List.mem_filter.mpr ⟨List.mem_of_getElem? (i := 274) (by decide +kernel), by decide +kernel⟩
theorem mm_275 : Cond.fieldLink RX4 19 "TwoFit$Gossip" "holds" "I" ∈ zGW := List.mem_filter.mpr ⟨List.mem_of_getElem? (i := 275) (by decide +kernel), by decide +kernel⟩
theorem mm_276 : Cond.fieldLink RX8 357 "TwoFit$Gossip" "holds" "I" ∈ zGW := List.mem_filter.mpr ⟨List.mem_of_getElem? (i := 276) (by decide +kernel), by decide +kernel⟩
theorem mm_277 : Cond.fieldLink RX4 22 "TwoFit$Gossip" "fault" "I" ∈ zGW := List.mem_filter.mpr ⟨List.mem_of_getElem? (i := 277) (by decide +kernel), by decide +kernel⟩
theorem mm_278 : Cond.fieldLink RX8 186 "TwoFit$Gossip" "fault" "I" ∈ zGW := List.mem_filter.mpr ⟨List.mem_of_getElem? (i := 278) (by decide +kernel), by decide +kernel⟩
theorem mm_279 : Cond.fieldLink RX4 25 "TwoFit$Gossip" "faultAt" "I" ∈ zGW := List.mem_filter.mpr ⟨List.mem_of_getElem? (i := 279) (by decide +kernel), by decide +kernel⟩
theorem mm_280 : Cond.fieldLink RX8 189 "TwoFit$Gossip" "faultAt" "I" ∈ zGW := List.mem_filter.mpr ⟨List.mem_of_getElem? (i := 280) (by decide +kernel), by decide +kernel⟩
theorem mm_281 : Cond.fieldLink RX4 28 "TwoFit$Gossip" "ofLine" "I" ∈ zGW := List.mem_filter.mpr ⟨List.mem_of_getElem? (i := 281) (by decide +kernel), by decide +kernel⟩
theorem mm_282 : Cond.fieldLink RX4 31 "TwoFit$Gossip" "letters" "[I" ∈ zGW := List.mem_filter.mpr ⟨List.mem_of_getElem? (i := 282) (by decide +kernel), by decide +kernel⟩
theorem mm_283 : Cond.fieldLink RX4 35 "TwoFit$Gossip" "text" "[I" ∈ zGW := List.mem_filter.mpr ⟨List.mem_of_getElem? (i := 283) (by decide +kernel), by decide +kernel⟩
theorem mm_284 : Cond.fieldLink RX4 38 "TwoFit$Gossip" "length" "I" ∈ zGW := List.mem_filter.mpr ⟨List.mem_of_getElem? (i := 284) (by decide +kernel), by decide +kernel⟩
theorem mm_285 : Cond.fieldLink RX4 41 "TwoFit$Gossip" "at" "I" ∈ zGW := List.mem_filter.mpr ⟨List.mem_of_getElem? (i := 285) (by decide +kernel), by decide +kernel⟩
theorem mm_286 : Cond.fieldLink RX4 44 "TwoFit$Gossip" "refused" "Z" ∈ zGW := List.mem_filter.mpr ⟨List.mem_of_getElem? (i := 286) (by decide +kernel), by decide +kernel⟩
theorem mm_310 : Cond.instantiable RX3 6 ∈ zGW := List.mem_filter.mpr ⟨List.mem_of_getElem? (i := 310) (by decide +kernel), by decide +kernel⟩
theorem mm_311 : Cond.methodLink RX8 81 yX3_init ∈ zGW := List.mem_filter.mpr ⟨List.mem_of_getElem? (i := 311) (by decide +kernel), by decide +kernel⟩
theorem mm_312 : Cond.instanceMethod yX3_init ∈ zGW := List.mem_filter.mpr ⟨List.mem_of_getElem? (i := 312) (by decide +kernel), by decide +kernel⟩
theorem mm_313 : Cond.code yX3_init cX3_init 2 none ∈ zGW := List.mem_filter.mpr ⟨List.mem_of_getElem? (i := 313) (by decide +kernel), by decide +kernel⟩
theorem mm_314 : Cond.methodLink RX3 3 objectInit ∈ zGW := List.mem_filter.mpr ⟨List.mem_of_getElem? (i := 314) (by decide +kernel), by decide +kernel⟩
theorem mm_315 : Cond.fieldLink RX3 9 "TwoFit$Column" "weighs" "I" ∈ zGW := List.mem_filter.mpr ⟨List.mem_of_getElem? (i := 315) (by decide +kernel), by decide +kernel⟩
theorem mm_316 : Cond.fieldLink RX8 98 "TwoFit$Column" "weighs" "I" ∈ zGW := List.mem_filter.mpr ⟨List.mem_of_getElem? (i := 316) (by decide +kernel), by decide +kernel⟩
theorem mm_317 : Cond.fieldLink RX3 15 "TwoFit$Column" "above" "[I" ∈ zGW := List.mem_filter.mpr ⟨List.mem_of_getElem? (i := 317) (by decide +kernel), by decide +kernel⟩
theorem mm_318 : Cond.fieldLink RX3 19 "TwoFit$Column" "sizes" "[I" ∈ zGW := List.mem_filter.mpr ⟨List.mem_of_getElem? (i := 318) (by decide +kernel), by decide +kernel⟩
theorem mm_319 : Cond.fieldLink RX3 22 "TwoFit$Column" "who" "[I" ∈ zGW := List.mem_filter.mpr ⟨List.mem_of_getElem? (i := 319) (by decide +kernel), by decide +kernel⟩
theorem mm_320 : Cond.fieldLink RX3 25 "TwoFit$Column" "values" "[I" ∈ zGW := List.mem_filter.mpr ⟨List.mem_of_getElem? (i := 320) (by decide +kernel), by decide +kernel⟩
theorem mm_321 : Cond.fieldLink RX3 28 "TwoFit$Column" "settled" "I" ∈ zGW := List.mem_filter.mpr ⟨List.mem_of_getElem? (i := 321) (by decide +kernel), by decide +kernel⟩
theorem mm_335 : Cond.instantiable RX2 5 ∈ zGW := List.mem_filter.mpr ⟨List.mem_of_getElem? (i := 335) (by decide +kernel), by decide +kernel⟩
theorem mm_337 : Cond.instanceMethod yX2_init ∈ zGW := List.mem_filter.mpr ⟨List.mem_of_getElem? (i := 337) (by decide +kernel), by decide +kernel⟩
theorem mm_338 : Cond.code yX2_init cX2_init 1 none ∈ zGW := List.mem_filter.mpr ⟨List.mem_of_getElem? (i := 338) (by decide +kernel), by decide +kernel⟩
theorem mm_339 : Cond.methodLink RX2 3 objectInit ∈ zGW := List.mem_filter.mpr ⟨List.mem_of_getElem? (i := 339) (by decide +kernel), by decide +kernel⟩
theorem mm_340 : Cond.classLink RX2 26 "[[I" ∈ zGW := List.mem_filter.mpr ⟨List.mem_of_getElem? (i := 340) (by decide +kernel), by decide +kernel⟩
theorem mm_341 : Cond.fieldLink RX2 9 "TwoFit$Book" "lines" "I" ∈ zGW := List.mem_filter.mpr ⟨List.mem_of_getElem? (i := 341) (by decide +kernel), by decide +kernel⟩
theorem mm_342 : Cond.fieldLink RX8 322 "TwoFit$Book" "lines" "I" ∈ zGW := List.mem_filter.mpr ⟨List.mem_of_getElem? (i := 342) (by decide +kernel), by decide +kernel⟩
theorem mm_343 : Cond.fieldLink RX2 15 "TwoFit$Book" "live" "I" ∈ zGW := List.mem_filter.mpr ⟨List.mem_of_getElem? (i := 343) (by decide +kernel), by decide +kernel⟩
theorem mm_344 : Cond.fieldLink RX8 151 "TwoFit$Book" "live" "I" ∈ zGW := List.mem_filter.mpr ⟨List.mem_of_getElem? (i := 344) (by decide +kernel), by decide +kernel⟩
theorem mm_345 : Cond.fieldLink RX2 18 "TwoFit$Book" "isShown" "Z" ∈ zGW := List.mem_filter.mpr ⟨List.mem_of_getElem? (i := 345) (by decide +kernel), by decide +kernel⟩
theorem mm_346 : Cond.fieldLink RX8 164 "TwoFit$Book" "isShown" "Z" ∈ zGW := List.mem_filter.mpr ⟨List.mem_of_getElem? (i := 346) (by decide +kernel), by decide +kernel⟩
theorem mm_347 : Cond.fieldLink RX2 22 "TwoFit$Book" "owners" "[I" ∈ zGW := List.mem_filter.mpr ⟨List.mem_of_getElem? (i := 347) (by decide +kernel), by decide +kernel⟩
theorem mm_348 : Cond.fieldLink RX2 28 "TwoFit$Book" "nodes" "[[I" ∈ zGW := List.mem_filter.mpr ⟨List.mem_of_getElem? (i := 348) (by decide +kernel), by decide +kernel⟩
theorem mm_360 : Cond.fieldLink RX8 11 "TwoFit" "columns" "[LTwoFit$Column;" ∈ zGW := List.mem_filter.mpr ⟨List.mem_of_getElem? (i := 360) (by decide +kernel), by decide +kernel⟩
theorem mm_361 : Cond.fieldLink RX8 15 "TwoFit" "wishes" "[I" ∈ zGW := List.mem_filter.mpr ⟨List.mem_of_getElem? (i := 361) (by decide +kernel), by decide +kernel⟩
theorem mm_362 : Cond.fieldLink RX8 22 "TwoFit" "tape" "LTwoFit$Tape;" ∈ zGW := List.mem_filter.mpr ⟨List.mem_of_getElem? (i := 362) (by decide +kernel), by decide +kernel⟩
theorem mm_363 : Cond.fieldLink RX8 28 "TwoFit" "books" "[LTwoFit$Book;" ∈ zGW := List.mem_filter.mpr ⟨List.mem_of_getElem? (i := 363) (by decide +kernel), by decide +kernel⟩
theorem mm_364 : Cond.fieldLink RX8 35 "TwoFit" "links" "LTwoFit$Links;" ∈ zGW := List.mem_filter.mpr ⟨List.mem_of_getElem? (i := 364) (by decide +kernel), by decide +kernel⟩
theorem mm_365 : Cond.fieldLink RX8 41 "TwoFit" "gossips" "[LTwoFit$Gossip;" ∈ zGW := List.mem_filter.mpr ⟨List.mem_of_getElem? (i := 365) (by decide +kernel), by decide +kernel⟩
theorem mm_366 : Cond.fieldLink RX8 48 "TwoFit" "matching" "LTwoFit$Matching;" ∈ zGW := List.mem_filter.mpr ⟨List.mem_of_getElem? (i := 366) (by decide +kernel), by decide +kernel⟩
theorem mm_367 : Cond.fieldLink RX8 55 "TwoFit" "asking" "LTwoFit$Asking;" ∈ zGW := List.mem_filter.mpr ⟨List.mem_of_getElem? (i := 367) (by decide +kernel), by decide +kernel⟩
theorem mm_368 : Cond.fieldLink RX8 62 "TwoFit" "blurs" "LTwoFit$Blurs;" ∈ zGW := List.mem_filter.mpr ⟨List.mem_of_getElem? (i := 368) (by decide +kernel), by decide +kernel⟩
theorem mm_369 : Cond.fieldLink RX8 66 "TwoFit" "letters" "[I" ∈ zGW := List.mem_filter.mpr ⟨List.mem_of_getElem? (i := 369) (by decide +kernel), by decide +kernel⟩
theorem mm_370 : Cond.fieldLink RX8 70 "TwoFit" "draft" "LTwoFit$Gossip;" ∈ zGW := List.mem_filter.mpr ⟨List.mem_of_getElem? (i := 370) (by decide +kernel), by decide +kernel⟩
theorem mm_371 : Cond.fieldLink RX8 74 "TwoFit" "people" "I" ∈ zGW := List.mem_filter.mpr ⟨List.mem_of_getElem? (i := 371) (by decide +kernel), by decide +kernel⟩
theorem mm_372 : Cond.fieldLink RX8 78 "TwoFit" "bookCount" "I" ∈ zGW := List.mem_filter.mpr ⟨List.mem_of_getElem? (i := 372) (by decide +kernel), by decide +kernel⟩
theorem mm_400 : Cond.methodLink RL 13 yX8_upper ∈ zGW := List.mem_filter.mpr ⟨List.mem_of_getElem? (i := 400) (by decide +kernel), by decide +kernel⟩
theorem mm_401 : Cond.instanceMethod yX8_upper ∈ zGW := List.mem_filter.mpr ⟨List.mem_of_getElem? (i := 401) (by decide +kernel), by decide +kernel⟩
theorem mm_402 : Cond.selects RX8 yX8_upper yX8_upper ∈ zGW := List.mem_filter.mpr ⟨List.mem_of_getElem? (i := 402) (by decide +kernel), by decide +kernel⟩
theorem mm_403 : Cond.code yX8_upper cX8_upper 4 (some .boolean) ∈ zGW := List.mem_filter.mpr ⟨List.mem_of_getElem? (i := 403) (by decide +kernel), by decide +kernel⟩
theorem mm_404 : Cond.methodLink RX8 83 yX8_isColumn ∈ zGW := List.mem_filter.mpr ⟨List.mem_of_getElem? (i := 404) (by decide +kernel), by decide +kernel⟩
theorem mm_405 : Cond.static yX8_isColumn ∈ zGW := List.mem_filter.mpr ⟨List.mem_of_getElem? (i := 405) (by decide +kernel), by decide +kernel⟩
theorem mm_406 : Cond.code yX8_isColumn cX8_isColumn 1 (some .boolean) ∈ zGW := List.mem_filter.mpr ⟨List.mem_of_getElem? (i := 406) (by decide +kernel), by decide +kernel⟩
theorem mm_407 : Cond.methodLink RX8 87 yX8_within ∈ zGW := List.mem_filter.mpr ⟨List.mem_of_getElem? (i := 407) (by decide +kernel), by decide +kernel⟩
theorem mm_408 : Cond.static yX8_within ∈ zGW := List.mem_filter.mpr ⟨List.mem_of_getElem? (i := 408) (by decide +kernel), by decide +kernel⟩
theorem mm_409 : Cond.code yX8_within cX8_within 3 (some .boolean) ∈ zGW := List.mem_filter.mpr ⟨List.mem_of_getElem? (i := 409) (by decide +kernel), by decide +kernel⟩
theorem mm_410 : Cond.methodLink RX8 91 yX3_hang ∈ zGW := List.mem_filter.mpr ⟨List.mem_of_getElem? (i := 410) (by decide +kernel), by decide +kernel⟩
theorem mm_411 : Cond.instanceMethod yX3_hang ∈ zGW := List.mem_filter.mpr ⟨List.mem_of_getElem? (i := 411) (by decide +kernel), by decide +kernel⟩
theorem mm_412 : Cond.selects RX3 yX3_hang yX3_hang ∈ zGW := List.mem_filter.mpr ⟨List.mem_of_getElem? (i := 412) (by decide +kernel), by decide +kernel⟩
theorem mm_413 : Cond.code yX3_hang cX3_hang 4 none ∈ zGW := List.mem_filter.mpr ⟨List.mem_of_getElem? (i := 413) (by decide +kernel), by decide +kernel⟩
theorem mm_415 : Cond.methodLink RX3 35 yX3_climb ∈ zGW := List.mem_filter.mpr ⟨List.mem_of_getElem? (i := 415) (by decide +kernel), by decide +kernel⟩
theorem mm_417 : Cond.instanceMethod yX3_climb ∈ zGW := List.mem_filter.mpr ⟨List.mem_of_getElem? (i := 417) (by decide +kernel), by decide +kernel⟩
theorem mm_418 : Cond.code yX3_climb cX3_climb 6 none ∈ zGW := List.mem_filter.mpr ⟨List.mem_of_getElem? (i := 418) (by decide +kernel), by decide +kernel⟩
theorem mm_419 : Cond.methodLink RX8 95 yX0_forget ∈ zGW := List.mem_filter.mpr ⟨List.mem_of_getElem? (i := 419) (by decide +kernel), by decide +kernel⟩
theorem mm_420 : Cond.instanceMethod yX0_forget ∈ zGW := List.mem_filter.mpr ⟨List.mem_of_getElem? (i := 420) (by decide +kernel), by decide +kernel⟩
theorem mm_421 : Cond.selects RX0 yX0_forget yX0_forget ∈ zGW := List.mem_filter.mpr ⟨List.mem_of_getElem? (i := 421) (by decide +kernel), by decide +kernel⟩
theorem mm_422 : Cond.code yX0_forget cX0_forget 1 none ∈ zGW := List.mem_filter.mpr ⟨List.mem_of_getElem? (i := 422) (by decide +kernel), by decide +kernel⟩
theorem mm_423 : Cond.methodLink RL 18 yX8_weight ∈ zGW := List.mem_filter.mpr ⟨List.mem_of_getElem? (i := 423) (by decide +kernel), by decide +kernel⟩
theorem mm_424 : Cond.instanceMethod yX8_weight ∈ zGW := List.mem_filter.mpr ⟨List.mem_of_getElem? (i := 424) (by decide +kernel), by decide +kernel⟩
theorem mm_425 : Cond.selects RX8 yX8_weight yX8_weight ∈ zGW := List.mem_filter.mpr ⟨List.mem_of_getElem? (i := 425) (by decide +kernel), by decide +kernel⟩
theorem mm_426 : Cond.code yX8_weight cX8_weight 3 (some .boolean) ∈ zGW := List.mem_filter.mpr ⟨List.mem_of_getElem? (i := 426) (by decide +kernel), by decide +kernel⟩
theorem mm_427 : Cond.methodLink RL 23 yX8_person ∈ zGW := List.mem_filter.mpr ⟨List.mem_of_getElem? (i := 427) (by decide +kernel), by decide +kernel⟩
theorem mm_428 : Cond.instanceMethod yX8_person ∈ zGW := List.mem_filter.mpr ⟨List.mem_of_getElem? (i := 428) (by decide +kernel), by decide +kernel⟩
theorem mm_429 : Cond.selects RX8 yX8_person yX8_person ∈ zGW := List.mem_filter.mpr ⟨List.mem_of_getElem? (i := 429) (by decide +kernel), by decide +kernel⟩
theorem mm_430 : Cond.code yX8_person cX8_person 6 (some .int) ∈ zGW := List.mem_filter.mpr ⟨List.mem_of_getElem? (i := 430) (by decide +kernel), by decide +kernel⟩
theorem mm_431 : Cond.methodLink RX8 101 yX8_isValue ∈ zGW := List.mem_filter.mpr ⟨List.mem_of_getElem? (i := 431) (by decide +kernel), by decide +kernel⟩
theorem mm_432 : Cond.static yX8_isValue ∈ zGW := List.mem_filter.mpr ⟨List.mem_of_getElem? (i := 432) (by decide +kernel), by decide +kernel⟩
theorem mm_433 : Cond.code yX8_isValue cX8_isValue 1 (some .boolean) ∈ zGW := List.mem_filter.mpr ⟨List.mem_of_getElem? (i := 433) (by decide +kernel), by decide +kernel⟩
theorem mm_434 : Cond.methodLink RX8 104 yX3_settle ∈ zGW := List.mem_filter.mpr ⟨List.mem_of_getElem? (i := 434) (by decide +kernel), by decide +kernel⟩
theorem mm_435 : Cond.instanceMethod yX3_settle ∈ zGW := List.mem_filter.mpr ⟨List.mem_of_getElem? (i := 435) (by decide +kernel), by decide +kernel⟩
theorem mm_436 : Cond.selects RX3 yX3_settle yX3_settle ∈ zGW := List.mem_filter.mpr ⟨List.mem_of_getElem? (i := 436) (by decide +kernel), by decide +kernel⟩
theorem mm_437 : Cond.code yX3_settle cX3_settle 3 none ∈ zGW := List.mem_filter.mpr ⟨List.mem_of_getElem? (i := 437) (by decide +kernel), by decide +kernel⟩
theorem mm_439 : Cond.methodLink RX8 107 yX8_judgeAll ∈ zGW := List.mem_filter.mpr ⟨List.mem_of_getElem? (i := 439) (by decide +kernel), by decide +kernel⟩
theorem mm_441 : Cond.instanceMethod yX8_judgeAll ∈ zGW := List.mem_filter.mpr ⟨List.mem_of_getElem? (i := 441) (by decide +kernel), by decide +kernel⟩
theorem mm_442 : Cond.code yX8_judgeAll cX8_judgeAll 3 none ∈ zGW := List.mem_filter.mpr ⟨List.mem_of_getElem? (i := 442) (by decide +kernel), by decide +kernel⟩
theorem mm_443 : Cond.methodLink RX8 195 yX8_spell ∈ zGW := List.mem_filter.mpr ⟨List.mem_of_getElem? (i := 443) (by decide +kernel), by decide +kernel⟩
theorem mm_445 : Cond.instanceMethod yX8_spell ∈ zGW := List.mem_filter.mpr ⟨List.mem_of_getElem? (i := 445) (by decide +kernel), by decide +kernel⟩
theorem mm_446 : Cond.code yX8_spell cX8_spell 3 none ∈ zGW := List.mem_filter.mpr ⟨List.mem_of_getElem? (i := 446) (by decide +kernel), by decide +kernel⟩
theorem mm_447 : Cond.methodLink RX8 328 yX3_valueOf ∈ zGW := List.mem_filter.mpr ⟨List.mem_of_getElem? (i := 447) (by decide +kernel), by decide +kernel⟩
theorem mm_448 : Cond.instanceMethod yX3_valueOf ∈ zGW := List.mem_filter.mpr ⟨List.mem_of_getElem? (i := 448) (by decide +kernel), by decide +kernel⟩
theorem mm_449 : Cond.selects RX3 yX3_valueOf yX3_valueOf ∈ zGW := List.mem_filter.mpr ⟨List.mem_of_getElem? (i := 449) (by decide +kernel), by decide +kernel⟩
theorem mm_450 : Cond.code yX3_valueOf cX3_valueOf 2 (some .int) ∈ zGW := List.mem_filter.mpr ⟨List.mem_of_getElem? (i := 450) (by decide +kernel), by decide +kernel⟩
theorem mm_451 : Cond.methodLink RX8 111 yX8_isPerson ∈ zGW := List.mem_filter.mpr ⟨List.mem_of_getElem? (i := 451) (by decide +kernel), by decide +kernel⟩
theorem mm_453 : Cond.instanceMethod yX8_isPerson ∈ zGW := List.mem_filter.mpr ⟨List.mem_of_getElem? (i := 453) (by decide +kernel), by decide +kernel⟩
theorem mm_454 : Cond.code yX8_isPerson cX8_isPerson 2 (some .boolean) ∈ zGW := List.mem_filter.mpr ⟨List.mem_of_getElem? (i := 454) (by decide +kernel), by decide +kernel⟩
theorem mm_455 : Cond.methodLink RX8 198 yX4_judge ∈ zGW := List.mem_filter.mpr ⟨List.mem_of_getElem? (i := 455) (by decide +kernel), by decide +kernel⟩
theorem mm_456 : Cond.instanceMethod yX4_judge ∈ zGW := List.mem_filter.mpr ⟨List.mem_of_getElem? (i := 456) (by decide +kernel), by decide +kernel⟩
theorem mm_457 : Cond.selects RX4 yX4_judge yX4_judge ∈ zGW := List.mem_filter.mpr ⟨List.mem_of_getElem? (i := 457) (by decide +kernel), by decide +kernel⟩
theorem mm_458 : Cond.code yX4_judge cX4_judge 3 none ∈ zGW := List.mem_filter.mpr ⟨List.mem_of_getElem? (i := 458) (by decide +kernel), by decide +kernel⟩
theorem mm_459 : Cond.methodLink RX4 59 yX4_start ∈ zGW := List.mem_filter.mpr ⟨List.mem_of_getElem? (i := 459) (by decide +kernel), by decide +kernel⟩
theorem mm_461 : Cond.instanceMethod yX4_start ∈ zGW := List.mem_filter.mpr ⟨List.mem_of_getElem? (i := 461) (by decide +kernel), by decide +kernel⟩
theorem mm_462 : Cond.code yX4_start cX4_start 1 none ∈ zGW := List.mem_filter.mpr ⟨List.mem_of_getElem? (i := 462) (by decide +kernel), by decide +kernel⟩
theorem mm_463 : Cond.methodLink RX4 62 yX4_anyOf ∈ zGW := List.mem_filter.mpr ⟨List.mem_of_getElem? (i := 463) (by decide +kernel), by decide +kernel⟩
theorem mm_465 : Cond.instanceMethod yX4_anyOf ∈ zGW := List.mem_filter.mpr ⟨List.mem_of_getElem? (i := 465) (by decide +kernel), by decide +kernel⟩
theorem mm_466 : Cond.code yX4_anyOf cX4_anyOf 6 (some .boolean) ∈ zGW := List.mem_filter.mpr ⟨List.mem_of_getElem? (i := 466) (by decide +kernel), by decide +kernel⟩
theorem mm_467 : Cond.methodLink RX4 74 yX4_allOf ∈ zGW := List.mem_filter.mpr ⟨List.mem_of_getElem? (i := 467) (by decide +kernel), by decide +kernel⟩
theorem mm_469 : Cond.instanceMethod yX4_allOf ∈ zGW := List.mem_filter.mpr ⟨List.mem_of_getElem? (i := 469) (by decide +kernel), by decide +kernel⟩
theorem mm_470 : Cond.code yX4_allOf cX4_allOf 6 (some .boolean) ∈ zGW := List.mem_filter.mpr ⟨List.mem_of_getElem? (i := 470) (by decide +kernel), by decide +kernel⟩
theorem mm_471 : Cond.methodLink RX4 77 yX4_piece ∈ zGW := List.mem_filter.mpr ⟨List.mem_of_getElem? (i := 471) (by decide +kernel), by decide +kernel⟩
theorem mm_473 : Cond.instanceMethod yX4_piece ∈ zGW := List.mem_filter.mpr ⟨List.mem_of_getElem? (i := 473) (by decide +kernel), by decide +kernel⟩
theorem mm_474 : Cond.code yX4_piece cX4_piece 6 (some .boolean) ∈ zGW := List.mem_filter.mpr ⟨List.mem_of_getElem? (i := 474) (by decide +kernel), by decide +kernel⟩
theorem mm_475 : Cond.methodLink RX4 70 yX4_next ∈ zGW := List.mem_filter.mpr ⟨List.mem_of_getElem? (i := 475) (by decide +kernel), by decide +kernel⟩
theorem mm_477 : Cond.instanceMethod yX4_next ∈ zGW := List.mem_filter.mpr ⟨List.mem_of_getElem? (i := 477) (by decide +kernel), by decide +kernel⟩
theorem mm_478 : Cond.code yX4_next cX4_next 1 (some .int) ∈ zGW := List.mem_filter.mpr ⟨List.mem_of_getElem? (i := 478) (by decide +kernel), by decide +kernel⟩
theorem mm_479 : Cond.methodLink RX4 80 yX4_opens ∈ zGW := List.mem_filter.mpr ⟨List.mem_of_getElem? (i := 479) (by decide +kernel), by decide +kernel⟩
theorem mm_481 : Cond.instanceMethod yX4_opens ∈ zGW := List.mem_filter.mpr ⟨List.mem_of_getElem? (i := 481) (by decide +kernel), by decide +kernel⟩
theorem mm_482 : Cond.code yX4_opens cX4_opens 2 (some .boolean) ∈ zGW := List.mem_filter.mpr ⟨List.mem_of_getElem? (i := 482) (by decide +kernel), by decide +kernel⟩
theorem mm_483 : Cond.methodLink RX4 66 yX4_fail ∈ zGW := List.mem_filter.mpr ⟨List.mem_of_getElem? (i := 483) (by decide +kernel), by decide +kernel⟩
theorem mm_485 : Cond.instanceMethod yX4_fail ∈ zGW := List.mem_filter.mpr ⟨List.mem_of_getElem? (i := 485) (by decide +kernel), by decide +kernel⟩
theorem mm_486 : Cond.code yX4_fail cX4_fail 2 none ∈ zGW := List.mem_filter.mpr ⟨List.mem_of_getElem? (i := 486) (by decide +kernel), by decide +kernel⟩
theorem mm_487 : Cond.methodLink RX4 84 yX4_expect ∈ zGW := List.mem_filter.mpr ⟨List.mem_of_getElem? (i := 487) (by decide +kernel), by decide +kernel⟩
theorem mm_489 : Cond.instanceMethod yX4_expect ∈ zGW := List.mem_filter.mpr ⟨List.mem_of_getElem? (i := 489) (by decide +kernel), by decide +kernel⟩
theorem mm_490 : Cond.code yX4_expect cX4_expect 2 none ∈ zGW := List.mem_filter.mpr ⟨List.mem_of_getElem? (i := 490) (by decide +kernel), by decide +kernel⟩
theorem mm_491 : Cond.methodLink RX4 87 yX4_sum ∈ zGW := List.mem_filter.mpr ⟨List.mem_of_getElem? (i := 491) (by decide +kernel), by decide +kernel⟩
theorem mm_493 : Cond.instanceMethod yX4_sum ∈ zGW := List.mem_filter.mpr ⟨List.mem_of_getElem? (i := 493) (by decide +kernel), by decide +kernel⟩
theorem mm_494 : Cond.code yX4_sum cX4_sum 7 (some .int) ∈ zGW := List.mem_filter.mpr ⟨List.mem_of_getElem? (i := 494) (by decide +kernel), by decide +kernel⟩
theorem mm_495 : Cond.methodLink RX4 91 yX4_product ∈ zGW := List.mem_filter.mpr ⟨List.mem_of_getElem? (i := 495) (by decide +kernel), by decide +kernel⟩
theorem mm_497 : Cond.instanceMethod yX4_product ∈ zGW := List.mem_filter.mpr ⟨List.mem_of_getElem? (i := 497) (by decide +kernel), by decide +kernel⟩
theorem mm_498 : Cond.code yX4_product cX4_product 7 (some .int) ∈ zGW := List.mem_filter.mpr ⟨List.mem_of_getElem? (i := 498) (by decide +kernel), by decide +kernel⟩
theorem mm_499 : Cond.methodLink RX4 94 yX4_factor ∈ zGW := List.mem_filter.mpr ⟨List.mem_of_getElem? (i := 499) (by decide +kernel), by decide +kernel⟩
theorem mm_501 : Cond.instanceMethod yX4_factor ∈ zGW := List.mem_filter.mpr ⟨List.mem_of_getElem? (i := 501) (by decide +kernel), by decide +kernel⟩
theorem mm_502 : Cond.code yX4_factor cX4_factor 5 (some .int) ∈ zGW := List.mem_filter.mpr ⟨List.mem_of_getElem? (i := 502) (by decide +kernel), by decide +kernel⟩
theorem mm_503 : Cond.methodLink RX4 97 yX4_isDigit ∈ zGW := List.mem_filter.mpr ⟨List.mem_of_getElem? (i := 503) (by decide +kernel), by decide +kernel⟩
theorem mm_504 : Cond.static yX4_isDigit ∈ zGW := List.mem_filter.mpr ⟨List.mem_of_getElem? (i := 504) (by decide +kernel), by decide +kernel⟩
theorem mm_505 : Cond.code yX4_isDigit cX4_isDigit 1 (some .boolean) ∈ zGW := List.mem_filter.mpr ⟨List.mem_of_getElem? (i := 505) (by decide +kernel), by decide +kernel⟩
theorem mm_506 : Cond.methodLink RX4 100 yX4_numeral ∈ zGW := List.mem_filter.mpr ⟨List.mem_of_getElem? (i := 506) (by decide +kernel), by decide +kernel⟩
theorem mm_508 : Cond.instanceMethod yX4_numeral ∈ zGW := List.mem_filter.mpr ⟨List.mem_of_getElem? (i := 508) (by decide +kernel), by decide +kernel⟩
theorem mm_509 : Cond.code yX4_numeral cX4_numeral 3 (some .int) ∈ zGW := List.mem_filter.mpr ⟨List.mem_of_getElem? (i := 509) (by decide +kernel), by decide +kernel⟩
theorem mm_510 : Cond.methodLink RX4 103 yX4_letterOf ∈ zGW := List.mem_filter.mpr ⟨List.mem_of_getElem? (i := 510) (by decide +kernel), by decide +kernel⟩
theorem mm_511 : Cond.static yX4_letterOf ∈ zGW := List.mem_filter.mpr ⟨List.mem_of_getElem? (i := 511) (by decide +kernel), by decide +kernel⟩
theorem mm_512 : Cond.code yX4_letterOf cX4_letterOf 1 (some .int) ∈ zGW := List.mem_filter.mpr ⟨List.mem_of_getElem? (i := 512) (by decide +kernel), by decide +kernel⟩
theorem mm_513 : Cond.methodLink RL 28 yX8_wish ∈ zGW := List.mem_filter.mpr ⟨List.mem_of_getElem? (i := 513) (by decide +kernel), by decide +kernel⟩
theorem mm_514 : Cond.instanceMethod yX8_wish ∈ zGW := List.mem_filter.mpr ⟨List.mem_of_getElem? (i := 514) (by decide +kernel), by decide +kernel⟩
theorem mm_515 : Cond.selects RX8 yX8_wish yX8_wish ∈ zGW := List.mem_filter.mpr ⟨List.mem_of_getElem? (i := 515) (by decide +kernel), by decide +kernel⟩
theorem mm_516 : Cond.code yX8_wish cX8_wish 3 (some .boolean) ∈ zGW := List.mem_filter.mpr ⟨List.mem_of_getElem? (i := 516) (by decide +kernel), by decide +kernel⟩
theorem mm_517 : Cond.methodLink RL 32 yX8_feed ∈ zGW := List.mem_filter.mpr ⟨List.mem_of_getElem? (i := 517) (by decide +kernel), by decide +kernel⟩
theorem mm_518 : Cond.instanceMethod yX8_feed ∈ zGW := List.mem_filter.mpr ⟨List.mem_of_getElem? (i := 518) (by decide +kernel), by decide +kernel⟩
theorem mm_519 : Cond.selects RX8 yX8_feed yX8_feed ∈ zGW := List.mem_filter.mpr ⟨List.mem_of_getElem? (i := 519) (by decide +kernel), by decide +kernel⟩
theorem mm_520 : Cond.code yX8_feed cX8_feed 6 (some .int) ∈ zGW := List.mem_filter.mpr ⟨List.mem_of_getElem? (i := 520) (by decide +kernel), by decide +kernel⟩
theorem mm_521 : Cond.methodLink RX8 117 yX7_append ∈ zGW := List.mem_filter.mpr ⟨List.mem_of_getElem? (i := 521) (by decide +kernel), by decide +kernel⟩
theorem mm_522 : Cond.instanceMethod yX7_append ∈ zGW := List.mem_filter.mpr ⟨List.mem_of_getElem? (i := 522) (by decide +kernel), by decide +kernel⟩
theorem mm_523 : Cond.selects RX7 yX7_append yX7_append ∈ zGW := List.mem_filter.mpr ⟨List.mem_of_getElem? (i := 523) (by decide +kernel), by decide +kernel⟩
theorem mm_524 : Cond.code yX7_append cX7_append 3 none ∈ zGW := List.mem_filter.mpr ⟨List.mem_of_getElem? (i := 524) (by decide +kernel), by decide +kernel⟩
theorem mm_525 : Cond.methodLink RL 37 yX8_blurred ∈ zGW := List.mem_filter.mpr ⟨List.mem_of_getElem? (i := 525) (by decide +kernel), by decide +kernel⟩
theorem mm_526 : Cond.instanceMethod yX8_blurred ∈ zGW := List.mem_filter.mpr ⟨List.mem_of_getElem? (i := 526) (by decide +kernel), by decide +kernel⟩
theorem mm_527 : Cond.selects RX8 yX8_blurred yX8_blurred ∈ zGW := List.mem_filter.mpr ⟨List.mem_of_getElem? (i := 527) (by decide +kernel), by decide +kernel⟩
theorem mm_528 : Cond.code yX8_blurred cX8_blurred 4 (some .int) ∈ zGW := List.mem_filter.mpr ⟨List.mem_of_getElem? (i := 528) (by decide +kernel), by decide +kernel⟩
theorem mm_529 : Cond.methodLink RX8 120 yX8_isLevel ∈ zGW := List.mem_filter.mpr ⟨List.mem_of_getElem? (i := 529) (by decide +kernel), by decide +kernel⟩
theorem mm_530 : Cond.static yX8_isLevel ∈ zGW := List.mem_filter.mpr ⟨List.mem_of_getElem? (i := 530) (by decide +kernel), by decide +kernel⟩
theorem mm_531 : Cond.code yX8_isLevel cX8_isLevel 1 (some .boolean) ∈ zGW := List.mem_filter.mpr ⟨List.mem_of_getElem? (i := 531) (by decide +kernel), by decide +kernel⟩
theorem mm_532 : Cond.methodLink RX8 123 yX3_raised ∈ zGW := List.mem_filter.mpr ⟨List.mem_of_getElem? (i := 532) (by decide +kernel), by decide +kernel⟩
theorem mm_533 : Cond.instanceMethod yX3_raised ∈ zGW := List.mem_filter.mpr ⟨List.mem_of_getElem? (i := 533) (by decide +kernel), by decide +kernel⟩
theorem mm_534 : Cond.selects RX3 yX3_raised yX3_raised ∈ zGW := List.mem_filter.mpr ⟨List.mem_of_getElem? (i := 534) (by decide +kernel), by decide +kernel⟩
theorem mm_535 : Cond.code yX3_raised cX3_raised 5 (some .int) ∈ zGW := List.mem_filter.mpr ⟨List.mem_of_getElem? (i := 535) (by decide +kernel), by decide +kernel⟩
theorem mm_536 : Cond.methodLink RL 42 yX8_size ∈ zGW := List.mem_filter.mpr ⟨List.mem_of_getElem? (i := 536) (by decide +kernel), by decide +kernel⟩
theorem mm_537 : Cond.instanceMethod yX8_size ∈ zGW := List.mem_filter.mpr ⟨List.mem_of_getElem? (i := 537) (by decide +kernel), by decide +kernel⟩
theorem mm_538 : Cond.selects RX8 yX8_size yX8_size ∈ zGW := List.mem_filter.mpr ⟨List.mem_of_getElem? (i := 538) (by decide +kernel), by decide +kernel⟩
theorem mm_539 : Cond.code yX8_size cX8_size 3 (some .int) ∈ zGW := List.mem_filter.mpr ⟨List.mem_of_getElem? (i := 539) (by decide +kernel), by decide +kernel⟩
theorem mm_540 : Cond.methodLink RX8 127 yX3_valuesBelow ∈ zGW := List.mem_filter.mpr ⟨List.mem_of_getElem? (i := 540) (by decide +kernel), by decide +kernel⟩
theorem mm_541 : Cond.instanceMethod yX3_valuesBelow ∈ zGW := List.mem_filter.mpr ⟨List.mem_of_getElem? (i := 541) (by decide +kernel), by decide +kernel⟩
theorem mm_542 : Cond.selects RX3 yX3_valuesBelow yX3_valuesBelow ∈ zGW := List.mem_filter.mpr ⟨List.mem_of_getElem? (i := 542) (by decide +kernel), by decide +kernel⟩
theorem mm_543 : Cond.code yX3_valuesBelow cX3_valuesBelow 2 (some .int) ∈ zGW := List.mem_filter.mpr ⟨List.mem_of_getElem? (i := 543) (by decide +kernel), by decide +kernel⟩
theorem mm_544 : Cond.methodLink RL 47 yX8_book ∈ zGW := List.mem_filter.mpr ⟨List.mem_of_getElem? (i := 544) (by decide +kernel), by decide +kernel⟩
theorem mm_545 : Cond.instanceMethod yX8_book ∈ zGW := List.mem_filter.mpr ⟨List.mem_of_getElem? (i := 545) (by decide +kernel), by decide +kernel⟩
theorem mm_546 : Cond.selects RX8 yX8_book yX8_book ∈ zGW := List.mem_filter.mpr ⟨List.mem_of_getElem? (i := 546) (by decide +kernel), by decide +kernel⟩
theorem mm_547 : Cond.code yX8_book cX8_book 9 (some .int) ∈ zGW := List.mem_filter.mpr ⟨List.mem_of_getElem? (i := 547) (by decide +kernel), by decide +kernel⟩
theorem mm_548 : Cond.methodLink RX8 131 yX8_tellsPeople ∈ zGW := List.mem_filter.mpr ⟨List.mem_of_getElem? (i := 548) (by decide +kernel), by decide +kernel⟩
theorem mm_550 : Cond.instanceMethod yX8_tellsPeople ∈ zGW := List.mem_filter.mpr ⟨List.mem_of_getElem? (i := 550) (by decide +kernel), by decide +kernel⟩
theorem mm_551 : Cond.code yX8_tellsPeople cX8_tellsPeople 5 (some .boolean) ∈ zGW := List.mem_filter.mpr ⟨List.mem_of_getElem? (i := 551) (by decide +kernel), by decide +kernel⟩
theorem mm_552 : Cond.methodLink RX8 134 yX7_byteAt ∈ zGW := List.mem_filter.mpr ⟨List.mem_of_getElem? (i := 552) (by decide +kernel), by decide +kernel⟩
theorem mm_553 : Cond.instanceMethod yX7_byteAt ∈ zGW := List.mem_filter.mpr ⟨List.mem_of_getElem? (i := 553) (by decide +kernel), by decide +kernel⟩
theorem mm_554 : Cond.selects RX7 yX7_byteAt yX7_byteAt ∈ zGW := List.mem_filter.mpr ⟨List.mem_of_getElem? (i := 554) (by decide +kernel), by decide +kernel⟩
theorem mm_555 : Cond.code yX7_byteAt cX7_byteAt 2 (some .int) ∈ zGW := List.mem_filter.mpr ⟨List.mem_of_getElem? (i := 555) (by decide +kernel), by decide +kernel⟩
theorem mm_557 : Cond.methodLink RX8 137 yX2_add ∈ zGW := List.mem_filter.mpr ⟨List.mem_of_getElem? (i := 557) (by decide +kernel), by decide +kernel⟩
theorem mm_558 : Cond.instanceMethod yX2_add ∈ zGW := List.mem_filter.mpr ⟨List.mem_of_getElem? (i := 558) (by decide +kernel), by decide +kernel⟩
theorem mm_559 : Cond.selects RX2 yX2_add yX2_add ∈ zGW := List.mem_filter.mpr ⟨List.mem_of_getElem? (i := 559) (by decide +kernel), by decide +kernel⟩
theorem mm_560 : Cond.code yX2_add cX2_add 2 none ∈ zGW := List.mem_filter.mpr ⟨List.mem_of_getElem? (i := 560) (by decide +kernel), by decide +kernel⟩
theorem mm_561 : Cond.methodLink RX8 140 yX8_fillColumn ∈ zGW := List.mem_filter.mpr ⟨List.mem_of_getElem? (i := 561) (by decide +kernel), by decide +kernel⟩
theorem mm_563 : Cond.instanceMethod yX8_fillColumn ∈ zGW := List.mem_filter.mpr ⟨List.mem_of_getElem? (i := 563) (by decide +kernel), by decide +kernel⟩
theorem mm_564 : Cond.code yX8_fillColumn cX8_fillColumn 6 none ∈ zGW := List.mem_filter.mpr ⟨List.mem_of_getElem? (i := 564) (by decide +kernel), by decide +kernel⟩
theorem mm_565 : Cond.methodLink RX8 202 yX2_owner ∈ zGW := List.mem_filter.mpr ⟨List.mem_of_getElem? (i := 565) (by decide +kernel), by decide +kernel⟩
theorem mm_566 : Cond.instanceMethod yX2_owner ∈ zGW := List.mem_filter.mpr ⟨List.mem_of_getElem? (i := 566) (by decide +kernel), by decide +kernel⟩
theorem mm_567 : Cond.selects RX2 yX2_owner yX2_owner ∈ zGW := List.mem_filter.mpr ⟨List.mem_of_getElem? (i := 567) (by decide +kernel), by decide +kernel⟩
theorem mm_568 : Cond.code yX2_owner cX2_owner 2 (some .int) ∈ zGW := List.mem_filter.mpr ⟨List.mem_of_getElem? (i := 568) (by decide +kernel), by decide +kernel⟩
theorem mm_570 : Cond.methodLink RX8 331 yX2_put ∈ zGW := List.mem_filter.mpr ⟨List.mem_of_getElem? (i := 570) (by decide +kernel), by decide +kernel⟩
theorem mm_571 : Cond.instanceMethod yX2_put ∈ zGW := List.mem_filter.mpr ⟨List.mem_of_getElem? (i := 571) (by decide +kernel), by decide +kernel⟩
theorem mm_572 : Cond.selects RX2 yX2_put yX2_put ∈ zGW := List.mem_filter.mpr ⟨List.mem_of_getElem? (i := 572) (by decide +kernel), by decide +kernel⟩
theorem mm_573 : Cond.code yX2_put cX2_put 4 none ∈ zGW := List.mem_filter.mpr ⟨List.mem_of_getElem? (i := 573) (by decide +kernel), by decide +kernel⟩
theorem mm_575 : Cond.methodLink RX8 144 yX7_clear ∈ zGW := List.mem_filter.mpr ⟨List.mem_of_getElem? (i := 575) (by decide +kernel), by decide +kernel⟩
theorem mm_576 : Cond.instanceMethod yX7_clear ∈ zGW := List.mem_filter.mpr ⟨List.mem_of_getElem? (i := 576) (by decide +kernel), by decide +kernel⟩
theorem mm_577 : Cond.selects RX7 yX7_clear yX7_clear ∈ zGW := List.mem_filter.mpr ⟨List.mem_of_getElem? (i := 577) (by decide +kernel), by decide +kernel⟩
theorem mm_578 : Cond.code yX7_clear cX7_clear 1 none ∈ zGW := List.mem_filter.mpr ⟨List.mem_of_getElem? (i := 578) (by decide +kernel), by decide +kernel⟩
theorem mm_579 : Cond.methodLink RL 51 yX8_cut ∈ zGW := List.mem_filter.mpr ⟨List.mem_of_getElem? (i := 579) (by decide +kernel), by decide +kernel⟩
theorem mm_580 : Cond.instanceMethod yX8_cut ∈ zGW := List.mem_filter.mpr ⟨List.mem_of_getElem? (i := 580) (by decide +kernel), by decide +kernel⟩
theorem mm_581 : Cond.selects RX8 yX8_cut yX8_cut ∈ zGW := List.mem_filter.mpr ⟨List.mem_of_getElem? (i := 581) (by decide +kernel), by decide +kernel⟩
theorem mm_582 : Cond.code yX8_cut cX8_cut 3 (some .boolean) ∈ zGW := List.mem_filter.mpr ⟨List.mem_of_getElem? (i := 582) (by decide +kernel), by decide +kernel⟩
theorem mm_583 : Cond.methodLink RX8 147 yX8_isLive ∈ zGW := List.mem_filter.mpr ⟨List.mem_of_getElem? (i := 583) (by decide +kernel), by decide +kernel⟩
theorem mm_585 : Cond.instanceMethod yX8_isLive ∈ zGW := List.mem_filter.mpr ⟨List.mem_of_getElem? (i := 585) (by decide +kernel), by decide +kernel⟩
theorem mm_586 : Cond.code yX8_isLive cX8_isLive 3 (some .boolean) ∈ zGW := List.mem_filter.mpr ⟨List.mem_of_getElem? (i := 586) (by decide +kernel), by decide +kernel⟩
theorem mm_587 : Cond.methodLink RX8 168 yX8_isLine ∈ zGW := List.mem_filter.mpr ⟨List.mem_of_getElem? (i := 587) (by decide +kernel), by decide +kernel⟩
theorem mm_589 : Cond.instanceMethod yX8_isLine ∈ zGW := List.mem_filter.mpr ⟨List.mem_of_getElem? (i := 589) (by decide +kernel), by decide +kernel⟩
theorem mm_590 : Cond.code yX8_isLine cX8_isLine 3 (some .boolean) ∈ zGW := List.mem_filter.mpr ⟨List.mem_of_getElem? (i := 590) (by decide +kernel), by decide +kernel⟩
theorem mm_591 : Cond.methodLink RX8 161 yX8_isBook ∈ zGW := List.mem_filter.mpr ⟨List.mem_of_getElem? (i := 591) (by decide +kernel), by decide +kernel⟩
theorem mm_593 : Cond.instanceMethod yX8_isBook ∈ zGW := List.mem_filter.mpr ⟨List.mem_of_getElem? (i := 593) (by decide +kernel), by decide +kernel⟩
theorem mm_594 : Cond.code yX8_isBook cX8_isBook 2 (some .boolean) ∈ zGW := List.mem_filter.mpr ⟨List.mem_of_getElem? (i := 594) (by decide +kernel), by decide +kernel⟩
theorem mm_595 : Cond.methodLink RL 55 yX8_swap ∈ zGW := List.mem_filter.mpr ⟨List.mem_of_getElem? (i := 595) (by decide +kernel), by decide +kernel⟩
theorem mm_596 : Cond.instanceMethod yX8_swap ∈ zGW := List.mem_filter.mpr ⟨List.mem_of_getElem? (i := 596) (by decide +kernel), by decide +kernel⟩
theorem mm_597 : Cond.selects RX8 yX8_swap yX8_swap ∈ zGW := List.mem_filter.mpr ⟨List.mem_of_getElem? (i := 597) (by decide +kernel), by decide +kernel⟩
theorem mm_598 : Cond.code yX8_swap cX8_swap 5 (some .boolean) ∈ zGW := List.mem_filter.mpr ⟨List.mem_of_getElem? (i := 598) (by decide +kernel), by decide +kernel⟩
theorem mm_599 : Cond.methodLink RX8 154 yX2_nodeAt ∈ zGW := List.mem_filter.mpr ⟨List.mem_of_getElem? (i := 599) (by decide +kernel), by decide +kernel⟩
theorem mm_600 : Cond.instanceMethod yX2_nodeAt ∈ zGW := List.mem_filter.mpr ⟨List.mem_of_getElem? (i := 600) (by decide +kernel), by decide +kernel⟩
theorem mm_601 : Cond.selects RX2 yX2_nodeAt yX2_nodeAt ∈ zGW := List.mem_filter.mpr ⟨List.mem_of_getElem? (i := 601) (by decide +kernel), by decide +kernel⟩
theorem mm_602 : Cond.code yX2_nodeAt cX2_nodeAt 3 (some .int) ∈ zGW := List.mem_filter.mpr ⟨List.mem_of_getElem? (i := 602) (by decide +kernel), by decide +kernel⟩
theorem mm_603 : Cond.methodLink RX8 157 yX2_exchange ∈ zGW := List.mem_filter.mpr ⟨List.mem_of_getElem? (i := 603) (by decide +kernel), by decide +kernel⟩
theorem mm_604 : Cond.instanceMethod yX2_exchange ∈ zGW := List.mem_filter.mpr ⟨List.mem_of_getElem? (i := 604) (by decide +kernel), by decide +kernel⟩
theorem mm_605 : Cond.selects RX2 yX2_exchange yX2_exchange ∈ zGW := List.mem_filter.mpr ⟨List.mem_of_getElem? (i := 605) (by decide +kernel), by decide +kernel⟩
theorem mm_606 : Cond.code yX2_exchange cX2_exchange 5 none ∈ zGW := List.mem_filter.mpr ⟨List.mem_of_getElem? (i := 606) (by decide +kernel), by decide +kernel⟩
theorem mm_607 : Cond.methodLink RX2 39 yX2_nodeAt ∈ zGW := List.mem_filter.mpr ⟨List.mem_of_getElem? (i := 607) (by decide +kernel), by decide +kernel⟩
theorem mm_608 : Cond.methodLink RX2 43 yX2_put ∈ zGW := List.mem_filter.mpr ⟨List.mem_of_getElem? (i := 608) (by decide +kernel), by decide +kernel⟩
theorem mm_609 : Cond.methodLink RL 60 yX8_show ∈ zGW := List.mem_filter.mpr ⟨List.mem_of_getElem? (i := 609) (by decide +kernel), by decide +kernel⟩
theorem mm_610 : Cond.instanceMethod yX8_show ∈ zGW := List.mem_filter.mpr ⟨List.mem_of_getElem? (i := 610) (by decide +kernel), by decide +kernel⟩
theorem mm_611 : Cond.selects RX8 yX8_show yX8_show ∈ zGW := List.mem_filter.mpr ⟨List.mem_of_getElem? (i := 611) (by decide +kernel), by decide +kernel⟩
theorem mm_612 : Cond.code yX8_show cX8_show 3 (some .boolean) ∈ zGW := List.mem_filter.mpr ⟨List.mem_of_getElem? (i := 612) (by decide +kernel), by decide +kernel⟩
theorem mm_613 : Cond.methodLink RL 65 yX8_link ∈ zGW := List.mem_filter.mpr ⟨List.mem_of_getElem? (i := 613) (by decide +kernel), by decide +kernel⟩
theorem mm_614 : Cond.instanceMethod yX8_link ∈ zGW := List.mem_filter.mpr ⟨List.mem_of_getElem? (i := 614) (by decide +kernel), by decide +kernel⟩
theorem mm_615 : Cond.selects RX8 yX8_link yX8_link ∈ zGW := List.mem_filter.mpr ⟨List.mem_of_getElem? (i := 615) (by decide +kernel), by decide +kernel⟩
theorem mm_616 : Cond.code yX8_link cX8_link 5 (some .int) ∈ zGW := List.mem_filter.mpr ⟨List.mem_of_getElem? (i := 616) (by decide +kernel), by decide +kernel⟩
theorem mm_617 : Cond.methodLink RX8 174 yX8_place ∈ zGW := List.mem_filter.mpr ⟨List.mem_of_getElem? (i := 617) (by decide +kernel), by decide +kernel⟩
theorem mm_618 : Cond.static yX8_place ∈ zGW := List.mem_filter.mpr ⟨List.mem_of_getElem? (i := 618) (by decide +kernel), by decide +kernel⟩
theorem mm_619 : Cond.code yX8_place cX8_place 2 (some .int) ∈ zGW := List.mem_filter.mpr ⟨List.mem_of_getElem? (i := 619) (by decide +kernel), by decide +kernel⟩
theorem mm_620 : Cond.methodLink RX8 177 yX5_add ∈ zGW := List.mem_filter.mpr ⟨List.mem_of_getElem? (i := 620) (by decide +kernel), by decide +kernel⟩
theorem mm_621 : Cond.instanceMethod yX5_add ∈ zGW := List.mem_filter.mpr ⟨List.mem_of_getElem? (i := 621) (by decide +kernel), by decide +kernel⟩
theorem mm_622 : Cond.selects RX5 yX5_add yX5_add ∈ zGW := List.mem_filter.mpr ⟨List.mem_of_getElem? (i := 622) (by decide +kernel), by decide +kernel⟩
theorem mm_623 : Cond.code yX5_add cX5_add 3 none ∈ zGW := List.mem_filter.mpr ⟨List.mem_of_getElem? (i := 623) (by decide +kernel), by decide +kernel⟩
theorem mm_624 : Cond.methodLink RL 69 yX8_gossip ∈ zGW := List.mem_filter.mpr ⟨List.mem_of_getElem? (i := 624) (by decide +kernel), by decide +kernel⟩
theorem mm_625 : Cond.instanceMethod yX8_gossip ∈ zGW := List.mem_filter.mpr ⟨List.mem_of_getElem? (i := 625) (by decide +kernel), by decide +kernel⟩
theorem mm_626 : Cond.selects RX8 yX8_gossip yX8_gossip ∈ zGW := List.mem_filter.mpr ⟨List.mem_of_getElem? (i := 626) (by decide +kernel), by decide +kernel⟩
theorem mm_627 : Cond.code yX8_gossip cX8_gossip 7 (some .int) ∈ zGW := List.mem_filter.mpr ⟨List.mem_of_getElem? (i := 627) (by decide +kernel), by decide +kernel⟩
theorem mm_628 : Cond.methodLink RX8 179 yX4_write ∈ zGW := List.mem_filter.mpr ⟨List.mem_of_getElem? (i := 628) (by decide +kernel), by decide +kernel⟩
theorem mm_629 : Cond.instanceMethod yX4_write ∈ zGW := List.mem_filter.mpr ⟨List.mem_of_getElem? (i := 629) (by decide +kernel), by decide +kernel⟩
theorem mm_630 : Cond.selects RX4 yX4_write yX4_write ∈ zGW := List.mem_filter.mpr ⟨List.mem_of_getElem? (i := 630) (by decide +kernel), by decide +kernel⟩
theorem mm_631 : Cond.code yX4_write cX4_write 4 none ∈ zGW := List.mem_filter.mpr ⟨List.mem_of_getElem? (i := 631) (by decide +kernel), by decide +kernel⟩
theorem mm_632 : Cond.methodLink RX4 47 Lib.Math.min.name ∈ zGW := List.mem_filter.mpr ⟨List.mem_of_getElem? (i := 632) (by decide +kernel), by decide +kernel⟩
theorem mm_633 : Cond.static Lib.Math.min.name ∈ zGW := List.mem_filter.mpr ⟨List.mem_of_getElem? (i := 633) (by decide +kernel), by decide +kernel⟩
theorem mm_634 : Cond.code Lib.Math.min.name Lib.Math.min.code 2 (some .int) ∈ zGW := List.mem_filter.mpr ⟨List.mem_of_getElem? (i := 634) (by decide +kernel), by decide +kernel⟩
theorem mm_635 : Cond.methodLink RX4 53 yX7_byteAt ∈ zGW := List.mem_filter.mpr ⟨List.mem_of_getElem? (i := 635) (by decide +kernel), by decide +kernel⟩
theorem mm_636 : Cond.methodLink RX8 183 yX4_read ∈ zGW := List.mem_filter.mpr ⟨List.mem_of_getElem? (i := 636) (by decide +kernel), by decide +kernel⟩
theorem mm_637 : Cond.instanceMethod yX4_read ∈ zGW := List.mem_filter.mpr ⟨List.mem_of_getElem? (i := 637) (by decide +kernel), by decide +kernel⟩
theorem mm_638 : Cond.selects RX4 yX4_read yX4_read ∈ zGW := List.mem_filter.mpr ⟨List.mem_of_getElem? (i := 638) (by decide +kernel), by decide +kernel⟩
theorem mm_639 : Cond.code yX4_read cX4_read 1 none ∈ zGW := List.mem_filter.mpr ⟨List.mem_of_getElem? (i := 639) (by decide +kernel), by decide +kernel⟩
theorem mm_640 : Cond.methodLink RX8 192 yX4_tellOf ∈ zGW := List.mem_filter.mpr ⟨List.mem_of_getElem? (i := 640) (by decide +kernel), by decide +kernel⟩
theorem mm_641 : Cond.instanceMethod yX4_tellOf ∈ zGW := List.mem_filter.mpr ⟨List.mem_of_getElem? (i := 641) (by decide +kernel), by decide +kernel⟩
theorem mm_642 : Cond.selects RX4 yX4_tellOf yX4_tellOf ∈ zGW := List.mem_filter.mpr ⟨List.mem_of_getElem? (i := 642) (by decide +kernel), by decide +kernel⟩
theorem mm_643 : Cond.code yX4_tellOf cX4_tellOf 3 none ∈ zGW := List.mem_filter.mpr ⟨List.mem_of_getElem? (i := 643) (by decide +kernel), by decide +kernel⟩
theorem mm_644 : Cond.methodLink RL 73 yX8_line ∈ zGW := List.mem_filter.mpr ⟨List.mem_of_getElem? (i := 644) (by decide +kernel), by decide +kernel⟩
theorem mm_645 : Cond.instanceMethod yX8_line ∈ zGW := List.mem_filter.mpr ⟨List.mem_of_getElem? (i := 645) (by decide +kernel), by decide +kernel⟩
theorem mm_646 : Cond.selects RX8 yX8_line yX8_line ∈ zGW := List.mem_filter.mpr ⟨List.mem_of_getElem? (i := 646) (by decide +kernel), by decide +kernel⟩
theorem mm_647 : Cond.code yX8_line cX8_line 4 (some .int) ∈ zGW := List.mem_filter.mpr ⟨List.mem_of_getElem? (i := 647) (by decide +kernel), by decide +kernel⟩
theorem mm_648 : Cond.methodLink RL 77 yX8_fits ∈ zGW := List.mem_filter.mpr ⟨List.mem_of_getElem? (i := 648) (by decide +kernel), by decide +kernel⟩
theorem mm_649 : Cond.instanceMethod yX8_fits ∈ zGW := List.mem_filter.mpr ⟨List.mem_of_getElem? (i := 649) (by decide +kernel), by decide +kernel⟩
theorem mm_650 : Cond.selects RX8 yX8_fits yX8_fits ∈ zGW := List.mem_filter.mpr ⟨List.mem_of_getElem? (i := 650) (by decide +kernel), by decide +kernel⟩
theorem mm_651 : Cond.code yX8_fits cX8_fits 4 (some .int) ∈ zGW := List.mem_filter.mpr ⟨List.mem_of_getElem? (i := 651) (by decide +kernel), by decide +kernel⟩
theorem mm_652 : Cond.methodLink RX8 205 yX8_areGossips ∈ zGW := List.mem_filter.mpr ⟨List.mem_of_getElem? (i := 652) (by decide +kernel), by decide +kernel⟩
theorem mm_653 : Cond.static yX8_areGossips ∈ zGW := List.mem_filter.mpr ⟨List.mem_of_getElem? (i := 653) (by decide +kernel), by decide +kernel⟩
theorem mm_654 : Cond.code yX8_areGossips cX8_areGossips 1 (some .boolean) ∈ zGW := List.mem_filter.mpr ⟨List.mem_of_getElem? (i := 654) (by decide +kernel), by decide +kernel⟩
theorem mm_655 : Cond.methodLink RX8 208 yX8_fit ∈ zGW := List.mem_filter.mpr ⟨List.mem_of_getElem? (i := 655) (by decide +kernel), by decide +kernel⟩
theorem mm_657 : Cond.instanceMethod yX8_fit ∈ zGW := List.mem_filter.mpr ⟨List.mem_of_getElem? (i := 657) (by decide +kernel), by decide +kernel⟩
theorem mm_658 : Cond.code yX8_fit cX8_fit 3 none ∈ zGW := List.mem_filter.mpr ⟨List.mem_of_getElem? (i := 658) (by decide +kernel), by decide +kernel⟩
theorem mm_659 : Cond.methodLink RX8 297 yX8_openFor ∈ zGW := List.mem_filter.mpr ⟨List.mem_of_getElem? (i := 659) (by decide +kernel), by decide +kernel⟩
theorem mm_661 : Cond.instanceMethod yX8_openFor ∈ zGW := List.mem_filter.mpr ⟨List.mem_of_getElem? (i := 661) (by decide +kernel), by decide +kernel⟩
theorem mm_662 : Cond.code yX8_openFor cX8_openFor 2 (some .int) ∈ zGW := List.mem_filter.mpr ⟨List.mem_of_getElem? (i := 662) (by decide +kernel), by decide +kernel⟩
theorem mm_663 : Cond.methodLink RX8 319 yX8_shownBooks ∈ zGW := List.mem_filter.mpr ⟨List.mem_of_getElem? (i := 663) (by decide +kernel), by decide +kernel⟩
theorem mm_665 : Cond.instanceMethod yX8_shownBooks ∈ zGW := List.mem_filter.mpr ⟨List.mem_of_getElem? (i := 665) (by decide +kernel), by decide +kernel⟩
theorem mm_666 : Cond.code yX8_shownBooks cX8_shownBooks 3 (some .int) ∈ zGW := List.mem_filter.mpr ⟨List.mem_of_getElem? (i := 666) (by decide +kernel), by decide +kernel⟩
theorem mm_667 : Cond.methodLink RX8 300 yX8_layOut ∈ zGW := List.mem_filter.mpr ⟨List.mem_of_getElem? (i := 667) (by decide +kernel), by decide +kernel⟩
theorem mm_669 : Cond.instanceMethod yX8_layOut ∈ zGW := List.mem_filter.mpr ⟨List.mem_of_getElem? (i := 669) (by decide +kernel), by decide +kernel⟩
theorem mm_670 : Cond.code yX8_layOut cX8_layOut 5 none ∈ zGW := List.mem_filter.mpr ⟨List.mem_of_getElem? (i := 670) (by decide +kernel), by decide +kernel⟩
theorem mm_671 : Cond.methodLink RX8 337 yX5_reached ∈ zGW := List.mem_filter.mpr ⟨List.mem_of_getElem? (i := 671) (by decide +kernel), by decide +kernel⟩
theorem mm_672 : Cond.instanceMethod yX5_reached ∈ zGW := List.mem_filter.mpr ⟨List.mem_of_getElem? (i := 672) (by decide +kernel), by decide +kernel⟩
theorem mm_673 : Cond.selects RX5 yX5_reached yX5_reached ∈ zGW := List.mem_filter.mpr ⟨List.mem_of_getElem? (i := 673) (by decide +kernel), by decide +kernel⟩
theorem mm_674 : Cond.code yX5_reached cX5_reached 9 (some .int) ∈ zGW := List.mem_filter.mpr ⟨List.mem_of_getElem? (i := 674) (by decide +kernel), by decide +kernel⟩
theorem mm_675 : Cond.methodLink RX8 345 yX8_fitLaid ∈ zGW := List.mem_filter.mpr ⟨List.mem_of_getElem? (i := 675) (by decide +kernel), by decide +kernel⟩
theorem mm_677 : Cond.instanceMethod yX8_fitLaid ∈ zGW := List.mem_filter.mpr ⟨List.mem_of_getElem? (i := 677) (by decide +kernel), by decide +kernel⟩
theorem mm_678 : Cond.code yX8_fitLaid cX8_fitLaid 4 none ∈ zGW := List.mem_filter.mpr ⟨List.mem_of_getElem? (i := 678) (by decide +kernel), by decide +kernel⟩
theorem mm_679 : Cond.methodLink RX8 342 yX8_fitAll ∈ zGW := List.mem_filter.mpr ⟨List.mem_of_getElem? (i := 679) (by decide +kernel), by decide +kernel⟩
theorem mm_681 : Cond.instanceMethod yX8_fitAll ∈ zGW := List.mem_filter.mpr ⟨List.mem_of_getElem? (i := 681) (by decide +kernel), by decide +kernel⟩
theorem mm_682 : Cond.code yX8_fitAll cX8_fitAll 6 (some .int) ∈ zGW := List.mem_filter.mpr ⟨List.mem_of_getElem? (i := 682) (by decide +kernel), by decide +kernel⟩
theorem mm_683 : Cond.methodLink RX8 348 yX8_fitAlone ∈ zGW := List.mem_filter.mpr ⟨List.mem_of_getElem? (i := 683) (by decide +kernel), by decide +kernel⟩
theorem mm_685 : Cond.instanceMethod yX8_fitAlone ∈ zGW := List.mem_filter.mpr ⟨List.mem_of_getElem? (i := 685) (by decide +kernel), by decide +kernel⟩
theorem mm_686 : Cond.code yX8_fitAlone cX8_fitAlone 6 (some .int) ∈ zGW := List.mem_filter.mpr ⟨List.mem_of_getElem? (i := 686) (by decide +kernel), by decide +kernel⟩
theorem mm_687 : Cond.methodLink RX8 351 yX3_whoBelow ∈ zGW := List.mem_filter.mpr ⟨List.mem_of_getElem? (i := 687) (by decide +kernel), by decide +kernel⟩
theorem mm_688 : Cond.instanceMethod yX3_whoBelow ∈ zGW := List.mem_filter.mpr ⟨List.mem_of_getElem? (i := 688) (by decide +kernel), by decide +kernel⟩
theorem mm_689 : Cond.selects RX3 yX3_whoBelow yX3_whoBelow ∈ zGW := List.mem_filter.mpr ⟨List.mem_of_getElem? (i := 689) (by decide +kernel), by decide +kernel⟩
theorem mm_690 : Cond.code yX3_whoBelow cX3_whoBelow 2 (some .int) ∈ zGW := List.mem_filter.mpr ⟨List.mem_of_getElem? (i := 690) (by decide +kernel), by decide +kernel⟩
theorem mm_691 : Cond.methodLink RX8 354 yX4_isOf ∈ zGW := List.mem_filter.mpr ⟨List.mem_of_getElem? (i := 691) (by decide +kernel), by decide +kernel⟩
theorem mm_692 : Cond.instanceMethod yX4_isOf ∈ zGW := List.mem_filter.mpr ⟨List.mem_of_getElem? (i := 692) (by decide +kernel), by decide +kernel⟩
theorem mm_693 : Cond.selects RX4 yX4_isOf yX4_isOf ∈ zGW := List.mem_filter.mpr ⟨List.mem_of_getElem? (i := 693) (by decide +kernel), by decide +kernel⟩
theorem mm_694 : Cond.code yX4_isOf cX4_isOf 3 (some .boolean) ∈ zGW := List.mem_filter.mpr ⟨List.mem_of_getElem? (i := 694) (by decide +kernel), by decide +kernel⟩
theorem mm_695 : Cond.methodLink RL 81 yX8_givings ∈ zGW := List.mem_filter.mpr ⟨List.mem_of_getElem? (i := 695) (by decide +kernel), by decide +kernel⟩
theorem mm_696 : Cond.instanceMethod yX8_givings ∈ zGW := List.mem_filter.mpr ⟨List.mem_of_getElem? (i := 696) (by decide +kernel), by decide +kernel⟩
theorem mm_697 : Cond.selects RX8 yX8_givings yX8_givings ∈ zGW := List.mem_filter.mpr ⟨List.mem_of_getElem? (i := 697) (by decide +kernel), by decide +kernel⟩
theorem mm_698 : Cond.code yX8_givings cX8_givings 3 (some .long) ∈ zGW := List.mem_filter.mpr ⟨List.mem_of_getElem? (i := 698) (by decide +kernel), by decide +kernel⟩
theorem mm_699 : Cond.constantLong RX8 213 (-1) ∈ zGW := List.mem_filter.mpr ⟨List.mem_of_getElem? (i := 699) (by decide +kernel), by decide +kernel⟩
theorem mm_700 : Cond.methodLink RX8 215 yX6_number ∈ zGW := List.mem_filter.mpr ⟨List.mem_of_getElem? (i := 700) (by decide +kernel), by decide +kernel⟩
theorem mm_701 : Cond.instanceMethod yX6_number ∈ zGW := List.mem_filter.mpr ⟨List.mem_of_getElem? (i := 701) (by decide +kernel), by decide +kernel⟩
theorem mm_702 : Cond.selects RX6 yX6_number yX6_number ∈ zGW := List.mem_filter.mpr ⟨List.mem_of_getElem? (i := 702) (by decide +kernel), by decide +kernel⟩
theorem mm_703 : Cond.code yX6_number cX6_number 4 (some .long) ∈ zGW := List.mem_filter.mpr ⟨List.mem_of_getElem? (i := 703) (by decide +kernel), by decide +kernel⟩
theorem mm_704 : Cond.methodLink RX6 54 yX6_giveTo ∈ zGW := List.mem_filter.mpr ⟨List.mem_of_getElem? (i := 704) (by decide +kernel), by decide +kernel⟩
theorem mm_706 : Cond.instanceMethod yX6_giveTo ∈ zGW := List.mem_filter.mpr ⟨List.mem_of_getElem? (i := 706) (by decide +kernel), by decide +kernel⟩
theorem mm_707 : Cond.code yX6_giveTo cX6_giveTo 4 none ∈ zGW := List.mem_filter.mpr ⟨List.mem_of_getElem? (i := 707) (by decide +kernel), by decide +kernel⟩
theorem mm_708 : Cond.methodLink RL 86 yX8_odds ∈ zGW := List.mem_filter.mpr ⟨List.mem_of_getElem? (i := 708) (by decide +kernel), by decide +kernel⟩
theorem mm_709 : Cond.instanceMethod yX8_odds ∈ zGW := List.mem_filter.mpr ⟨List.mem_of_getElem? (i := 709) (by decide +kernel), by decide +kernel⟩
theorem mm_710 : Cond.selects RX8 yX8_odds yX8_odds ∈ zGW := List.mem_filter.mpr ⟨List.mem_of_getElem? (i := 710) (by decide +kernel), by decide +kernel⟩
theorem mm_711 : Cond.code yX8_odds cX8_odds 12 (some .long) ∈ zGW := List.mem_filter.mpr ⟨List.mem_of_getElem? (i := 711) (by decide +kernel), by decide +kernel⟩
theorem mm_712 : Cond.constantLong RX8 218 (-2) ∈ zGW := List.mem_filter.mpr ⟨List.mem_of_getElem? (i := 712) (by decide +kernel), by decide +kernel⟩
theorem mm_713 : Cond.methodLink RX8 220 yX8_commonDivisor ∈ zGW := List.mem_filter.mpr ⟨List.mem_of_getElem? (i := 713) (by decide +kernel), by decide +kernel⟩
theorem mm_714 : Cond.static yX8_commonDivisor ∈ zGW := List.mem_filter.mpr ⟨List.mem_of_getElem? (i := 714) (by decide +kernel), by decide +kernel⟩
theorem mm_715 : Cond.code yX8_commonDivisor cX8_commonDivisor 11 (some .long) ∈ zGW := List.mem_filter.mpr ⟨List.mem_of_getElem? (i := 715) (by decide +kernel), by decide +kernel⟩
theorem mm_716 : Cond.methodLink RL 91 yX8_mustBe ∈ zGW := List.mem_filter.mpr ⟨List.mem_of_getElem? (i := 716) (by decide +kernel), by decide +kernel⟩
theorem mm_717 : Cond.instanceMethod yX8_mustBe ∈ zGW := List.mem_filter.mpr ⟨List.mem_of_getElem? (i := 717) (by decide +kernel), by decide +kernel⟩
theorem mm_718 : Cond.selects RX8 yX8_mustBe yX8_mustBe ∈ zGW := List.mem_filter.mpr ⟨List.mem_of_getElem? (i := 718) (by decide +kernel), by decide +kernel⟩
theorem mm_719 : Cond.code yX8_mustBe cX8_mustBe 6 (some .int) ∈ zGW := List.mem_filter.mpr ⟨List.mem_of_getElem? (i := 719) (by decide +kernel), by decide +kernel⟩
theorem mm_720 : Cond.methodLink RX8 224 yX6_weigh ∈ zGW := List.mem_filter.mpr ⟨List.mem_of_getElem? (i := 720) (by decide +kernel), by decide +kernel⟩
theorem mm_721 : Cond.instanceMethod yX6_weigh ∈ zGW := List.mem_filter.mpr ⟨List.mem_of_getElem? (i := 721) (by decide +kernel), by decide +kernel⟩
theorem mm_722 : Cond.selects RX6 yX6_weigh yX6_weigh ∈ zGW := List.mem_filter.mpr ⟨List.mem_of_getElem? (i := 722) (by decide +kernel), by decide +kernel⟩
theorem mm_723 : Cond.code yX6_weigh cX6_weigh 3 none ∈ zGW := List.mem_filter.mpr ⟨List.mem_of_getElem? (i := 723) (by decide +kernel), by decide +kernel⟩
theorem mm_724 : Cond.methodLink RX6 44 yX6_weighSet ∈ zGW := List.mem_filter.mpr ⟨List.mem_of_getElem? (i := 724) (by decide +kernel), by decide +kernel⟩
theorem mm_726 : Cond.instanceMethod yX6_weighSet ∈ zGW := List.mem_filter.mpr ⟨List.mem_of_getElem? (i := 726) (by decide +kernel), by decide +kernel⟩
theorem mm_727 : Cond.code yX6_weighSet cX6_weighSet 4 none ∈ zGW := List.mem_filter.mpr ⟨List.mem_of_getElem? (i := 727) (by decide +kernel), by decide +kernel⟩
theorem mm_728 : Cond.methodLink RX6 48 yJ6_bitCount_0f7a4 ∈ zGW := List.mem_filter.mpr ⟨List.mem_of_getElem? (i := 728) (by decide +kernel), by decide +kernel⟩
theorem mm_729 : Cond.static yJ6_bitCount_0f7a4 ∈ zGW := List.mem_filter.mpr ⟨List.mem_of_getElem? (i := 729) (by decide +kernel), by decide +kernel⟩
theorem mm_730 : Cond.code yJ6_bitCount_0f7a4 cJ6_bitCount_0f7a4 1 (some .int) ∈ zGW := List.mem_filter.mpr ⟨List.mem_of_getElem? (i := 730) (by decide +kernel), by decide +kernel⟩
theorem mm_731 : Cond.constant RJ6 265 (1431655765) ∈ zGW := List.mem_filter.mpr ⟨List.mem_of_getElem? (i := 731) (by decide +kernel), by decide +kernel⟩
theorem mm_732 : Cond.constant RJ6 266 (858993459) ∈ zGW := List.mem_filter.mpr ⟨List.mem_of_getElem? (i := 732) (by decide +kernel), by decide +kernel⟩
theorem mm_733 : Cond.constant RJ6 267 (252645135) ∈ zGW := List.mem_filter.mpr ⟨List.mem_of_getElem? (i := 733) (by decide +kernel), by decide +kernel⟩
theorem mm_734 : Cond.methodLink RX8 230 yJ6_bitCount_0f7a4 ∈ zGW := List.mem_filter.mpr ⟨List.mem_of_getElem? (i := 734) (by decide +kernel), by decide +kernel⟩
theorem mm_735 : Cond.methodLink RL 95 yX8_giving ∈ zGW := List.mem_filter.mpr ⟨List.mem_of_getElem? (i := 735) (by decide +kernel), by decide +kernel⟩
theorem mm_736 : Cond.instanceMethod yX8_giving ∈ zGW := List.mem_filter.mpr ⟨List.mem_of_getElem? (i := 736) (by decide +kernel), by decide +kernel⟩
theorem mm_737 : Cond.selects RX8 yX8_giving yX8_giving ∈ zGW := List.mem_filter.mpr ⟨List.mem_of_getElem? (i := 737) (by decide +kernel), by decide +kernel⟩
theorem mm_738 : Cond.code yX8_giving cX8_giving 5 (some .int) ∈ zGW := List.mem_filter.mpr ⟨List.mem_of_getElem? (i := 738) (by decide +kernel), by decide +kernel⟩
theorem mm_739 : Cond.methodLink RX8 235 yX6_least ∈ zGW := List.mem_filter.mpr ⟨List.mem_of_getElem? (i := 739) (by decide +kernel), by decide +kernel⟩
theorem mm_740 : Cond.instanceMethod yX6_least ∈ zGW := List.mem_filter.mpr ⟨List.mem_of_getElem? (i := 740) (by decide +kernel), by decide +kernel⟩
theorem mm_741 : Cond.selects RX6 yX6_least yX6_least ∈ zGW := List.mem_filter.mpr ⟨List.mem_of_getElem? (i := 741) (by decide +kernel), by decide +kernel⟩
theorem mm_742 : Cond.code yX6_least cX6_least 4 (some .int) ∈ zGW := List.mem_filter.mpr ⟨List.mem_of_getElem? (i := 742) (by decide +kernel), by decide +kernel⟩
theorem mm_743 : Cond.methodLink RX6 58 yX6_weigh ∈ zGW := List.mem_filter.mpr ⟨List.mem_of_getElem? (i := 743) (by decide +kernel), by decide +kernel⟩
theorem mm_745 : Cond.static yX8_lowest ∈ zGW := List.mem_filter.mpr ⟨List.mem_of_getElem? (i := 745) (by decide +kernel), by decide +kernel⟩
theorem mm_746 : Cond.code yX8_lowest cX8_lowest 2 (some .int) ∈ zGW := List.mem_filter.mpr ⟨List.mem_of_getElem? (i := 746) (by decide +kernel), by decide +kernel⟩
theorem mm_747 : Cond.methodLink RL 99 yX8_tooFew ∈ zGW := List.mem_filter.mpr ⟨List.mem_of_getElem? (i := 747) (by decide +kernel), by decide +kernel⟩
theorem mm_748 : Cond.instanceMethod yX8_tooFew ∈ zGW := List.mem_filter.mpr ⟨List.mem_of_getElem? (i := 748) (by decide +kernel), by decide +kernel⟩
theorem mm_749 : Cond.selects RX8 yX8_tooFew yX8_tooFew ∈ zGW := List.mem_filter.mpr ⟨List.mem_of_getElem? (i := 749) (by decide +kernel), by decide +kernel⟩
theorem mm_750 : Cond.code yX8_tooFew cX8_tooFew 3 (some .int) ∈ zGW := List.mem_filter.mpr ⟨List.mem_of_getElem? (i := 750) (by decide +kernel), by decide +kernel⟩
theorem mm_751 : Cond.methodLink RL 103 yX8_steps ∈ zGW := List.mem_filter.mpr ⟨List.mem_of_getElem? (i := 751) (by decide +kernel), by decide +kernel⟩
theorem mm_752 : Cond.instanceMethod yX8_steps ∈ zGW := List.mem_filter.mpr ⟨List.mem_of_getElem? (i := 752) (by decide +kernel), by decide +kernel⟩
theorem mm_753 : Cond.selects RX8 yX8_steps yX8_steps ∈ zGW := List.mem_filter.mpr ⟨List.mem_of_getElem? (i := 753) (by decide +kernel), by decide +kernel⟩
theorem mm_754 : Cond.code yX8_steps cX8_steps 5 (some .int) ∈ zGW := List.mem_filter.mpr ⟨List.mem_of_getElem? (i := 754) (by decide +kernel), by decide +kernel⟩
theorem mm_755 : Cond.methodLink RX8 241 yX6_stepByStep ∈ zGW := List.mem_filter.mpr ⟨List.mem_of_getElem? (i := 755) (by decide +kernel), by decide +kernel⟩
theorem mm_756 : Cond.instanceMethod yX6_stepByStep ∈ zGW := List.mem_filter.mpr ⟨List.mem_of_getElem? (i := 756) (by decide +kernel), by decide +kernel⟩
theorem mm_757 : Cond.selects RX6 yX6_stepByStep yX6_stepByStep ∈ zGW := List.mem_filter.mpr ⟨List.mem_of_getElem? (i := 757) (by decide +kernel), by decide +kernel⟩
theorem mm_758 : Cond.code yX6_stepByStep cX6_stepByStep 4 (some .int) ∈ zGW := List.mem_filter.mpr ⟨List.mem_of_getElem? (i := 758) (by decide +kernel), by decide +kernel⟩
theorem mm_759 : Cond.methodLink RX6 64 yX6_findSome ∈ zGW := List.mem_filter.mpr ⟨List.mem_of_getElem? (i := 759) (by decide +kernel), by decide +kernel⟩
theorem mm_761 : Cond.instanceMethod yX6_findSome ∈ zGW := List.mem_filter.mpr ⟨List.mem_of_getElem? (i := 761) (by decide +kernel), by decide +kernel⟩
theorem mm_762 : Cond.code yX6_findSome cX6_findSome 6 (some .boolean) ∈ zGW := List.mem_filter.mpr ⟨List.mem_of_getElem? (i := 762) (by decide +kernel), by decide +kernel⟩
theorem mm_763 : Cond.methodLink RX8 248 yX6_left ∈ zGW := List.mem_filter.mpr ⟨List.mem_of_getElem? (i := 763) (by decide +kernel), by decide +kernel⟩
theorem mm_764 : Cond.instanceMethod yX6_left ∈ zGW := List.mem_filter.mpr ⟨List.mem_of_getElem? (i := 764) (by decide +kernel), by decide +kernel⟩
theorem mm_765 : Cond.selects RX6 yX6_left yX6_left ∈ zGW := List.mem_filter.mpr ⟨List.mem_of_getElem? (i := 765) (by decide +kernel), by decide +kernel⟩
theorem mm_766 : Cond.code yX6_left cX6_left 2 (some .int) ∈ zGW := List.mem_filter.mpr ⟨List.mem_of_getElem? (i := 766) (by decide +kernel), by decide +kernel⟩
theorem mm_768 : Cond.methodLink RL 107 yX8_safe ∈ zGW := List.mem_filter.mpr ⟨List.mem_of_getElem? (i := 768) (by decide +kernel), by decide +kernel⟩
theorem mm_769 : Cond.instanceMethod yX8_safe ∈ zGW := List.mem_filter.mpr ⟨List.mem_of_getElem? (i := 769) (by decide +kernel), by decide +kernel⟩
theorem mm_770 : Cond.selects RX8 yX8_safe yX8_safe ∈ zGW := List.mem_filter.mpr ⟨List.mem_of_getElem? (i := 770) (by decide +kernel), by decide +kernel⟩
theorem mm_771 : Cond.code yX8_safe cX8_safe 4 (some .int) ∈ zGW := List.mem_filter.mpr ⟨List.mem_of_getElem? (i := 771) (by decide +kernel), by decide +kernel⟩
theorem mm_772 : Cond.methodLink RX8 251 yX8_isBar ∈ zGW := List.mem_filter.mpr ⟨List.mem_of_getElem? (i := 772) (by decide +kernel), by decide +kernel⟩
theorem mm_773 : Cond.static yX8_isBar ∈ zGW := List.mem_filter.mpr ⟨List.mem_of_getElem? (i := 773) (by decide +kernel), by decide +kernel⟩
theorem mm_774 : Cond.code yX8_isBar cX8_isBar 1 (some .boolean) ∈ zGW := List.mem_filter.mpr ⟨List.mem_of_getElem? (i := 774) (by decide +kernel), by decide +kernel⟩
theorem mm_775 : Cond.methodLink RX8 254 yX8_safeLines ∈ zGW := List.mem_filter.mpr ⟨List.mem_of_getElem? (i := 775) (by decide +kernel), by decide +kernel⟩
theorem mm_777 : Cond.instanceMethod yX8_safeLines ∈ zGW := List.mem_filter.mpr ⟨List.mem_of_getElem? (i := 777) (by decide +kernel), by decide +kernel⟩
theorem mm_778 : Cond.code yX8_safeLines cX8_safeLines 7 (some .int) ∈ zGW := List.mem_filter.mpr ⟨List.mem_of_getElem? (i := 778) (by decide +kernel), by decide +kernel⟩
theorem mm_779 : Cond.methodLink RX8 360 Lib.Math.max.name ∈ zGW := List.mem_filter.mpr ⟨List.mem_of_getElem? (i := 779) (by decide +kernel), by decide +kernel⟩
theorem mm_780 : Cond.static Lib.Math.max.name ∈ zGW := List.mem_filter.mpr ⟨List.mem_of_getElem? (i := 780) (by decide +kernel), by decide +kernel⟩
theorem mm_781 : Cond.code Lib.Math.max.name Lib.Math.max.code 2 (some .int) ∈ zGW := List.mem_filter.mpr ⟨List.mem_of_getElem? (i := 781) (by decide +kernel), by decide +kernel⟩
theorem mm_782 : Cond.methodLink RL 111 yX8_fewest ∈ zGW := List.mem_filter.mpr ⟨List.mem_of_getElem? (i := 782) (by decide +kernel), by decide +kernel⟩
theorem mm_783 : Cond.instanceMethod yX8_fewest ∈ zGW := List.mem_filter.mpr ⟨List.mem_of_getElem? (i := 783) (by decide +kernel), by decide +kernel⟩
theorem mm_784 : Cond.selects RX8 yX8_fewest yX8_fewest ∈ zGW := List.mem_filter.mpr ⟨List.mem_of_getElem? (i := 784) (by decide +kernel), by decide +kernel⟩
theorem mm_785 : Cond.code yX8_fewest cX8_fewest 5 (some .int) ∈ zGW := List.mem_filter.mpr ⟨List.mem_of_getElem? (i := 785) (by decide +kernel), by decide +kernel⟩
theorem mm_786 : Cond.methodLink RX8 257 yX8_fewestGossips ∈ zGW := List.mem_filter.mpr ⟨List.mem_of_getElem? (i := 786) (by decide +kernel), by decide +kernel⟩
theorem mm_788 : Cond.instanceMethod yX8_fewestGossips ∈ zGW := List.mem_filter.mpr ⟨List.mem_of_getElem? (i := 788) (by decide +kernel), by decide +kernel⟩
theorem mm_789 : Cond.code yX8_fewestGossips cX8_fewestGossips 7 (some .int) ∈ zGW := List.mem_filter.mpr ⟨List.mem_of_getElem? (i := 789) (by decide +kernel), by decide +kernel⟩
theorem mm_790 : Cond.methodLink RX8 260 yX8_mayLaid ∈ zGW := List.mem_filter.mpr ⟨List.mem_of_getElem? (i := 790) (by decide +kernel), by decide +kernel⟩
theorem mm_792 : Cond.instanceMethod yX8_mayLaid ∈ zGW := List.mem_filter.mpr ⟨List.mem_of_getElem? (i := 792) (by decide +kernel), by decide +kernel⟩
theorem mm_793 : Cond.code yX8_mayLaid cX8_mayLaid 4 (some .int) ∈ zGW := List.mem_filter.mpr ⟨List.mem_of_getElem? (i := 793) (by decide +kernel), by decide +kernel⟩
theorem mm_794 : Cond.methodLink RX8 264 yX8_lowest ∈ zGW := List.mem_filter.mpr ⟨List.mem_of_getElem? (i := 794) (by decide +kernel), by decide +kernel⟩
theorem mm_795 : Cond.methodLink RL 115 yX8_questions ∈ zGW := List.mem_filter.mpr ⟨List.mem_of_getElem? (i := 795) (by decide +kernel), by decide +kernel⟩
theorem mm_796 : Cond.instanceMethod yX8_questions ∈ zGW := List.mem_filter.mpr ⟨List.mem_of_getElem? (i := 796) (by decide +kernel), by decide +kernel⟩
theorem mm_797 : Cond.selects RX8 yX8_questions yX8_questions ∈ zGW := List.mem_filter.mpr ⟨List.mem_of_getElem? (i := 797) (by decide +kernel), by decide +kernel⟩
theorem mm_798 : Cond.code yX8_questions cX8_questions 7 (some .int) ∈ zGW := List.mem_filter.mpr ⟨List.mem_of_getElem? (i := 798) (by decide +kernel), by decide +kernel⟩
theorem mm_799 : Cond.methodLink RX8 267 yX8_someAlike ∈ zGW := List.mem_filter.mpr ⟨List.mem_of_getElem? (i := 799) (by decide +kernel), by decide +kernel⟩
theorem mm_801 : Cond.instanceMethod yX8_someAlike ∈ zGW := List.mem_filter.mpr ⟨List.mem_of_getElem? (i := 801) (by decide +kernel), by decide +kernel⟩
theorem mm_802 : Cond.code yX8_someAlike cX8_someAlike 5 (some .boolean) ∈ zGW := List.mem_filter.mpr ⟨List.mem_of_getElem? (i := 802) (by decide +kernel), by decide +kernel⟩
theorem mm_803 : Cond.methodLink RX8 270 yX0_prepare ∈ zGW := List.mem_filter.mpr ⟨List.mem_of_getElem? (i := 803) (by decide +kernel), by decide +kernel⟩
theorem mm_804 : Cond.instanceMethod yX0_prepare ∈ zGW := List.mem_filter.mpr ⟨List.mem_of_getElem? (i := 804) (by decide +kernel), by decide +kernel⟩
theorem mm_805 : Cond.selects RX0 yX0_prepare yX0_prepare ∈ zGW := List.mem_filter.mpr ⟨List.mem_of_getElem? (i := 805) (by decide +kernel), by decide +kernel⟩
theorem mm_806 : Cond.code yX0_prepare cX0_prepare 7 none ∈ zGW := List.mem_filter.mpr ⟨List.mem_of_getElem? (i := 806) (by decide +kernel), by decide +kernel⟩
theorem mm_807 : Cond.methodLink RX0 28 yX0_makeRoom ∈ zGW := List.mem_filter.mpr ⟨List.mem_of_getElem? (i := 807) (by decide +kernel), by decide +kernel⟩
theorem mm_809 : Cond.instanceMethod yX0_makeRoom ∈ zGW := List.mem_filter.mpr ⟨List.mem_of_getElem? (i := 809) (by decide +kernel), by decide +kernel⟩
theorem mm_810 : Cond.code yX0_makeRoom cX0_makeRoom 4 none ∈ zGW := List.mem_filter.mpr ⟨List.mem_of_getElem? (i := 810) (by decide +kernel), by decide +kernel⟩
theorem mm_812 : Cond.methodLink RX0 36 Lib.Math.max.name ∈ zGW := List.mem_filter.mpr ⟨List.mem_of_getElem? (i := 812) (by decide +kernel), by decide +kernel⟩
theorem mm_813 : Cond.methodLink RX0 42 yX3_whoBelow ∈ zGW := List.mem_filter.mpr ⟨List.mem_of_getElem? (i := 813) (by decide +kernel), by decide +kernel⟩
theorem mm_814 : Cond.methodLink RX0 47 yX0_addSplit ∈ zGW := List.mem_filter.mpr ⟨List.mem_of_getElem? (i := 814) (by decide +kernel), by decide +kernel⟩
theorem mm_816 : Cond.instanceMethod yX0_addSplit ∈ zGW := List.mem_filter.mpr ⟨List.mem_of_getElem? (i := 816) (by decide +kernel), by decide +kernel⟩
theorem mm_817 : Cond.code yX0_addSplit cX0_addSplit 5 none ∈ zGW := List.mem_filter.mpr ⟨List.mem_of_getElem? (i := 817) (by decide +kernel), by decide +kernel⟩
theorem mm_818 : Cond.methodLink RX8 274 yX0_fewestFor ∈ zGW := List.mem_filter.mpr ⟨List.mem_of_getElem? (i := 818) (by decide +kernel), by decide +kernel⟩
theorem mm_819 : Cond.instanceMethod yX0_fewestFor ∈ zGW := List.mem_filter.mpr ⟨List.mem_of_getElem? (i := 819) (by decide +kernel), by decide +kernel⟩
theorem mm_820 : Cond.selects RX0 yX0_fewestFor yX0_fewestFor ∈ zGW := List.mem_filter.mpr ⟨List.mem_of_getElem? (i := 820) (by decide +kernel), by decide +kernel⟩
theorem mm_821 : Cond.code yX0_fewestFor cX0_fewestFor 4 (some .int) ∈ zGW := List.mem_filter.mpr ⟨List.mem_of_getElem? (i := 821) (by decide +kernel), by decide +kernel⟩
theorem mm_822 : Cond.methodLink RX0 51 yX0_areEnough ∈ zGW := List.mem_filter.mpr ⟨List.mem_of_getElem? (i := 822) (by decide +kernel), by decide +kernel⟩
theorem mm_824 : Cond.instanceMethod yX0_areEnough ∈ zGW := List.mem_filter.mpr ⟨List.mem_of_getElem? (i := 824) (by decide +kernel), by decide +kernel⟩
theorem mm_825 : Cond.code yX0_areEnough cX0_areEnough 7 (some .boolean) ∈ zGW := List.mem_filter.mpr ⟨List.mem_of_getElem? (i := 825) (by decide +kernel), by decide +kernel⟩
theorem mm_826 : Cond.methodLink RX0 59 yJ6_bitCount_0f7a4 ∈ zGW := List.mem_filter.mpr ⟨List.mem_of_getElem? (i := 826) (by decide +kernel), by decide +kernel⟩
theorem mm_828 : Cond.methodLink RX0 67 yX0_atLeast ∈ zGW := List.mem_filter.mpr ⟨List.mem_of_getElem? (i := 828) (by decide +kernel), by decide +kernel⟩
theorem mm_830 : Cond.instanceMethod yX0_atLeast ∈ zGW := List.mem_filter.mpr ⟨List.mem_of_getElem? (i := 830) (by decide +kernel), by decide +kernel⟩
theorem mm_831 : Cond.code yX0_atLeast cX0_atLeast 7 (some .int) ∈ zGW := List.mem_filter.mpr ⟨List.mem_of_getElem? (i := 831) (by decide +kernel), by decide +kernel⟩
theorem mm_832 : Cond.methodLink RX0 74 Lib.Math.min.name ∈ zGW := List.mem_filter.mpr ⟨List.mem_of_getElem? (i := 832) (by decide +kernel), by decide +kernel⟩
theorem mm_833 : Cond.methodLink RX0 70 yX0_keep ∈ zGW := List.mem_filter.mpr ⟨List.mem_of_getElem? (i := 833) (by decide +kernel), by decide +kernel⟩
theorem mm_835 : Cond.instanceMethod yX0_keep ∈ zGW := List.mem_filter.mpr ⟨List.mem_of_getElem? (i := 835) (by decide +kernel), by decide +kernel⟩
theorem mm_836 : Cond.code yX0_keep cX0_keep 4 none ∈ zGW := List.mem_filter.mpr ⟨List.mem_of_getElem? (i := 836) (by decide +kernel), by decide +kernel⟩
theorem mm_837 : Cond.methodLink RX0 55 yX0_areEnoughBy ∈ zGW := List.mem_filter.mpr ⟨List.mem_of_getElem? (i := 837) (by decide +kernel), by decide +kernel⟩
theorem mm_839 : Cond.instanceMethod yX0_areEnoughBy ∈ zGW := List.mem_filter.mpr ⟨List.mem_of_getElem? (i := 839) (by decide +kernel), by decide +kernel⟩
theorem mm_840 : Cond.code yX0_areEnoughBy cX0_areEnoughBy 6 (some .boolean) ∈ zGW := List.mem_filter.mpr ⟨List.mem_of_getElem? (i := 840) (by decide +kernel), by decide +kernel⟩
theorem mm_841 : Cond.methodLink RX8 277 yX8_firstQuestion ∈ zGW := List.mem_filter.mpr ⟨List.mem_of_getElem? (i := 841) (by decide +kernel), by decide +kernel⟩
theorem mm_843 : Cond.instanceMethod yX8_firstQuestion ∈ zGW := List.mem_filter.mpr ⟨List.mem_of_getElem? (i := 843) (by decide +kernel), by decide +kernel⟩
theorem mm_844 : Cond.code yX8_firstQuestion cX8_firstQuestion 6 (some .int) ∈ zGW := List.mem_filter.mpr ⟨List.mem_of_getElem? (i := 844) (by decide +kernel), by decide +kernel⟩
theorem mm_845 : Cond.methodLink RX8 375 yX0_isFirst ∈ zGW := List.mem_filter.mpr ⟨List.mem_of_getElem? (i := 845) (by decide +kernel), by decide +kernel⟩
theorem mm_846 : Cond.instanceMethod yX0_isFirst ∈ zGW := List.mem_filter.mpr ⟨List.mem_of_getElem? (i := 846) (by decide +kernel), by decide +kernel⟩
theorem mm_847 : Cond.selects RX0 yX0_isFirst yX0_isFirst ∈ zGW := List.mem_filter.mpr ⟨List.mem_of_getElem? (i := 847) (by decide +kernel), by decide +kernel⟩
theorem mm_848 : Cond.code yX0_isFirst cX0_isFirst 4 (some .boolean) ∈ zGW := List.mem_filter.mpr ⟨List.mem_of_getElem? (i := 848) (by decide +kernel), by decide +kernel⟩
theorem mm_849 : Cond.methodLink RL 119 yX8_blurring ∈ zGW := List.mem_filter.mpr ⟨List.mem_of_getElem? (i := 849) (by decide +kernel), by decide +kernel⟩
theorem mm_850 : Cond.instanceMethod yX8_blurring ∈ zGW := List.mem_filter.mpr ⟨List.mem_of_getElem? (i := 850) (by decide +kernel), by decide +kernel⟩
theorem mm_851 : Cond.selects RX8 yX8_blurring yX8_blurring ∈ zGW := List.mem_filter.mpr ⟨List.mem_of_getElem? (i := 851) (by decide +kernel), by decide +kernel⟩
theorem mm_852 : Cond.code yX8_blurring cX8_blurring 6 (some .int) ∈ zGW := List.mem_filter.mpr ⟨List.mem_of_getElem? (i := 852) (by decide +kernel), by decide +kernel⟩
theorem mm_853 : Cond.methodLink RX8 280 yX8_prepareBlurs ∈ zGW := List.mem_filter.mpr ⟨List.mem_of_getElem? (i := 853) (by decide +kernel), by decide +kernel⟩
theorem mm_855 : Cond.instanceMethod yX8_prepareBlurs ∈ zGW := List.mem_filter.mpr ⟨List.mem_of_getElem? (i := 855) (by decide +kernel), by decide +kernel⟩
theorem mm_856 : Cond.code yX8_prepareBlurs cX8_prepareBlurs 4 none ∈ zGW := List.mem_filter.mpr ⟨List.mem_of_getElem? (i := 856) (by decide +kernel), by decide +kernel⟩
theorem mm_857 : Cond.methodLink RX8 378 yX1_clear ∈ zGW := List.mem_filter.mpr ⟨List.mem_of_getElem? (i := 857) (by decide +kernel), by decide +kernel⟩
theorem mm_858 : Cond.instanceMethod yX1_clear ∈ zGW := List.mem_filter.mpr ⟨List.mem_of_getElem? (i := 858) (by decide +kernel), by decide +kernel⟩
theorem mm_859 : Cond.selects RX1 yX1_clear yX1_clear ∈ zGW := List.mem_filter.mpr ⟨List.mem_of_getElem? (i := 859) (by decide +kernel), by decide +kernel⟩
theorem mm_860 : Cond.code yX1_clear cX1_clear 2 none ∈ zGW := List.mem_filter.mpr ⟨List.mem_of_getElem? (i := 860) (by decide +kernel), by decide +kernel⟩
theorem mm_861 : Cond.methodLink RX8 379 yX8_prepareBlursOf ∈ zGW := List.mem_filter.mpr ⟨List.mem_of_getElem? (i := 861) (by decide +kernel), by decide +kernel⟩
theorem mm_863 : Cond.instanceMethod yX8_prepareBlursOf ∈ zGW := List.mem_filter.mpr ⟨List.mem_of_getElem? (i := 863) (by decide +kernel), by decide +kernel⟩
theorem mm_864 : Cond.code yX8_prepareBlursOf cX8_prepareBlursOf 7 none ∈ zGW := List.mem_filter.mpr ⟨List.mem_of_getElem? (i := 864) (by decide +kernel), by decide +kernel⟩
theorem mm_865 : Cond.methodLink RX8 369 yX3_lossOf ∈ zGW := List.mem_filter.mpr ⟨List.mem_of_getElem? (i := 865) (by decide +kernel), by decide +kernel⟩
theorem mm_866 : Cond.instanceMethod yX3_lossOf ∈ zGW := List.mem_filter.mpr ⟨List.mem_of_getElem? (i := 866) (by decide +kernel), by decide +kernel⟩
theorem mm_867 : Cond.selects RX3 yX3_lossOf yX3_lossOf ∈ zGW := List.mem_filter.mpr ⟨List.mem_of_getElem? (i := 867) (by decide +kernel), by decide +kernel⟩
theorem mm_868 : Cond.code yX3_lossOf cX3_lossOf 2 (some .int) ∈ zGW := List.mem_filter.mpr ⟨List.mem_of_getElem? (i := 868) (by decide +kernel), by decide +kernel⟩
theorem mm_869 : Cond.methodLink RX3 43 yX3_valuesBelow ∈ zGW := List.mem_filter.mpr ⟨List.mem_of_getElem? (i := 869) (by decide +kernel), by decide +kernel⟩
theorem mm_870 : Cond.methodLink RX3 47 Lib.Math.max.name ∈ zGW := List.mem_filter.mpr ⟨List.mem_of_getElem? (i := 870) (by decide +kernel), by decide +kernel⟩
theorem mm_871 : Cond.methodLink RX8 382 yX1_put ∈ zGW := List.mem_filter.mpr ⟨List.mem_of_getElem? (i := 871) (by decide +kernel), by decide +kernel⟩
theorem mm_872 : Cond.instanceMethod yX1_put ∈ zGW := List.mem_filter.mpr ⟨List.mem_of_getElem? (i := 872) (by decide +kernel), by decide +kernel⟩
theorem mm_873 : Cond.selects RX1 yX1_put yX1_put ∈ zGW := List.mem_filter.mpr ⟨List.mem_of_getElem? (i := 873) (by decide +kernel), by decide +kernel⟩
theorem mm_874 : Cond.code yX1_put cX1_put 6 none ∈ zGW := List.mem_filter.mpr ⟨List.mem_of_getElem? (i := 874) (by decide +kernel), by decide +kernel⟩
theorem mm_878 : Cond.methodLink RX8 385 yX1_raiseTop ∈ zGW := List.mem_filter.mpr ⟨List.mem_of_getElem? (i := 878) (by decide +kernel), by decide +kernel⟩
theorem mm_879 : Cond.instanceMethod yX1_raiseTop ∈ zGW := List.mem_filter.mpr ⟨List.mem_of_getElem? (i := 879) (by decide +kernel), by decide +kernel⟩
theorem mm_880 : Cond.selects RX1 yX1_raiseTop yX1_raiseTop ∈ zGW := List.mem_filter.mpr ⟨List.mem_of_getElem? (i := 880) (by decide +kernel), by decide +kernel⟩
theorem mm_881 : Cond.code yX1_raiseTop cX1_raiseTop 3 none ∈ zGW := List.mem_filter.mpr ⟨List.mem_of_getElem? (i := 881) (by decide +kernel), by decide +kernel⟩
theorem mm_882 : Cond.methodLink RX1 47 Lib.Math.max.name ∈ zGW := List.mem_filter.mpr ⟨List.mem_of_getElem? (i := 882) (by decide +kernel), by decide +kernel⟩
theorem mm_883 : Cond.methodLink RX8 283 yX1_find ∈ zGW := List.mem_filter.mpr ⟨List.mem_of_getElem? (i := 883) (by decide +kernel), by decide +kernel⟩
theorem mm_884 : Cond.instanceMethod yX1_find ∈ zGW := List.mem_filter.mpr ⟨List.mem_of_getElem? (i := 884) (by decide +kernel), by decide +kernel⟩
theorem mm_885 : Cond.selects RX1 yX1_find yX1_find ∈ zGW := List.mem_filter.mpr ⟨List.mem_of_getElem? (i := 885) (by decide +kernel), by decide +kernel⟩
theorem mm_886 : Cond.code yX1_find cX1_find 7 none ∈ zGW := List.mem_filter.mpr ⟨List.mem_of_getElem? (i := 886) (by decide +kernel), by decide +kernel⟩
theorem mm_887 : Cond.methodLink RX1 53 yX1_level ∈ zGW := List.mem_filter.mpr ⟨List.mem_of_getElem? (i := 887) (by decide +kernel), by decide +kernel⟩
theorem mm_888 : Cond.static yX1_level ∈ zGW := List.mem_filter.mpr ⟨List.mem_of_getElem? (i := 888) (by decide +kernel), by decide +kernel⟩
theorem mm_889 : Cond.code yX1_level cX1_level 4 (some .int) ∈ zGW := List.mem_filter.mpr ⟨List.mem_of_getElem? (i := 889) (by decide +kernel), by decide +kernel⟩
theorem mm_890 : Cond.methodLink RX1 56 Lib.Math.min.name ∈ zGW := List.mem_filter.mpr ⟨List.mem_of_getElem? (i := 890) (by decide +kernel), by decide +kernel⟩
theorem mm_891 : Cond.methodLink RX1 59 yX1_tryRow ∈ zGW := List.mem_filter.mpr ⟨List.mem_of_getElem? (i := 891) (by decide +kernel), by decide +kernel⟩
theorem mm_893 : Cond.instanceMethod yX1_tryRow ∈ zGW := List.mem_filter.mpr ⟨List.mem_of_getElem? (i := 893) (by decide +kernel), by decide +kernel⟩
theorem mm_894 : Cond.code yX1_tryRow cX1_tryRow 8 none ∈ zGW := List.mem_filter.mpr ⟨List.mem_of_getElem? (i := 894) (by decide +kernel), by decide +kernel⟩
theorem mm_895 : Cond.methodLink RX1 63 yX1_whoFits ∈ zGW := List.mem_filter.mpr ⟨List.mem_of_getElem? (i := 895) (by decide +kernel), by decide +kernel⟩
theorem mm_897 : Cond.instanceMethod yX1_whoFits ∈ zGW := List.mem_filter.mpr ⟨List.mem_of_getElem? (i := 897) (by decide +kernel), by decide +kernel⟩
theorem mm_898 : Cond.code yX1_whoFits cX1_whoFits 4 (some .int) ∈ zGW := List.mem_filter.mpr ⟨List.mem_of_getElem? (i := 898) (by decide +kernel), by decide +kernel⟩
theorem mm_899 : Cond.methodLink RX1 67 yJ6_bitCount_0f7a4 ∈ zGW := List.mem_filter.mpr ⟨List.mem_of_getElem? (i := 899) (by decide +kernel), by decide +kernel⟩
theorem mm_900 : Cond.methodLink RX1 72 yX1_lossOf ∈ zGW := List.mem_filter.mpr ⟨List.mem_of_getElem? (i := 900) (by decide +kernel), by decide +kernel⟩
theorem mm_902 : Cond.instanceMethod yX1_lossOf ∈ zGW := List.mem_filter.mpr ⟨List.mem_of_getElem? (i := 902) (by decide +kernel), by decide +kernel⟩
theorem mm_903 : Cond.code yX1_lossOf cX1_lossOf 4 (some .int) ∈ zGW := List.mem_filter.mpr ⟨List.mem_of_getElem? (i := 903) (by decide +kernel), by decide +kernel⟩
theorem mm_904 : Cond.methodLink RX8 294 yX1_level ∈ zGW := List.mem_filter.mpr ⟨List.mem_of_getElem? (i := 904) (by decide +kernel), by decide +kernel⟩
theorem mm_905 : Cond.methodLink RL 123 yX8_bestSwap ∈ zGW := List.mem_filter.mpr ⟨List.mem_of_getElem? (i := 905) (by decide +kernel), by decide +kernel⟩
theorem mm_906 : Cond.instanceMethod yX8_bestSwap ∈ zGW := List.mem_filter.mpr ⟨List.mem_of_getElem? (i := 906) (by decide +kernel), by decide +kernel⟩
theorem mm_907 : Cond.selects RX8 yX8_bestSwap yX8_bestSwap ∈ zGW := List.mem_filter.mpr ⟨List.mem_of_getElem? (i := 907) (by decide +kernel), by decide +kernel⟩
theorem mm_908 : Cond.code yX8_bestSwap cX8_bestSwap 10 (some .int) ∈ zGW := List.mem_filter.mpr ⟨List.mem_of_getElem? (i := 908) (by decide +kernel), by decide +kernel⟩
theorem mm_909 : Cond.methodLink RX8 303 yX8_safeIfSwapped ∈ zGW := List.mem_filter.mpr ⟨List.mem_of_getElem? (i := 909) (by decide +kernel), by decide +kernel⟩
theorem mm_911 : Cond.instanceMethod yX8_safeIfSwapped ∈ zGW := List.mem_filter.mpr ⟨List.mem_of_getElem? (i := 911) (by decide +kernel), by decide +kernel⟩
theorem mm_912 : Cond.code yX8_safeIfSwapped cX8_safeIfSwapped 7 (some .int) ∈ zGW := List.mem_filter.mpr ⟨List.mem_of_getElem? (i := 912) (by decide +kernel), by decide +kernel⟩
theorem mm_913 : Cond.methodLink RX8 365 yX8_swap ∈ zGW := List.mem_filter.mpr ⟨List.mem_of_getElem? (i := 913) (by decide +kernel), by decide +kernel⟩
theorem mm_914 : Cond.methodLink RL 127 yX8_together ∈ zGW := List.mem_filter.mpr ⟨List.mem_of_getElem? (i := 914) (by decide +kernel), by decide +kernel⟩
theorem mm_915 : Cond.instanceMethod yX8_together ∈ zGW := List.mem_filter.mpr ⟨List.mem_of_getElem? (i := 915) (by decide +kernel), by decide +kernel⟩
theorem mm_916 : Cond.selects RX8 yX8_together yX8_together ∈ zGW := List.mem_filter.mpr ⟨List.mem_of_getElem? (i := 916) (by decide +kernel), by decide +kernel⟩
theorem mm_917 : Cond.code yX8_together cX8_together 5 (some .int) ∈ zGW := List.mem_filter.mpr ⟨List.mem_of_getElem? (i := 917) (by decide +kernel), by decide +kernel⟩
theorem mm_918 : Cond.methodLink RX8 307 yX8_firstBared ∈ zGW := List.mem_filter.mpr ⟨List.mem_of_getElem? (i := 918) (by decide +kernel), by decide +kernel⟩
theorem mm_920 : Cond.instanceMethod yX8_firstBared ∈ zGW := List.mem_filter.mpr ⟨List.mem_of_getElem? (i := 920) (by decide +kernel), by decide +kernel⟩
theorem mm_921 : Cond.code yX8_firstBared cX8_firstBared 3 (some .int) ∈ zGW := List.mem_filter.mpr ⟨List.mem_of_getElem? (i := 921) (by decide +kernel), by decide +kernel⟩
theorem mm_922 : Cond.methodLink RL 131 yX8_loss ∈ zGW := List.mem_filter.mpr ⟨List.mem_of_getElem? (i := 922) (by decide +kernel), by decide +kernel⟩
theorem mm_923 : Cond.instanceMethod yX8_loss ∈ zGW := List.mem_filter.mpr ⟨List.mem_of_getElem? (i := 923) (by decide +kernel), by decide +kernel⟩
theorem mm_924 : Cond.selects RX8 yX8_loss yX8_loss ∈ zGW := List.mem_filter.mpr ⟨List.mem_of_getElem? (i := 924) (by decide +kernel), by decide +kernel⟩
theorem mm_925 : Cond.code yX8_loss cX8_loss 4 (some .int) ∈ zGW := List.mem_filter.mpr ⟨List.mem_of_getElem? (i := 925) (by decide +kernel), by decide +kernel⟩
theorem mm_926 : Cond.methodLink RX8 310 yX8_lossOfLine ∈ zGW := List.mem_filter.mpr ⟨List.mem_of_getElem? (i := 926) (by decide +kernel), by decide +kernel⟩
theorem mm_928 : Cond.instanceMethod yX8_lossOfLine ∈ zGW := List.mem_filter.mpr ⟨List.mem_of_getElem? (i := 928) (by decide +kernel), by decide +kernel⟩
theorem mm_929 : Cond.code yX8_lossOfLine cX8_lossOfLine 5 (some .int) ∈ zGW := List.mem_filter.mpr ⟨List.mem_of_getElem? (i := 929) (by decide +kernel), by decide +kernel⟩
theorem mm_930 : Cond.methodLink RL 136 yX8_linesOf ∈ zGW := List.mem_filter.mpr ⟨List.mem_of_getElem? (i := 930) (by decide +kernel), by decide +kernel⟩
theorem mm_931 : Cond.instanceMethod yX8_linesOf ∈ zGW := List.mem_filter.mpr ⟨List.mem_of_getElem? (i := 931) (by decide +kernel), by decide +kernel⟩
theorem mm_932 : Cond.selects RX8 yX8_linesOf yX8_linesOf ∈ zGW := List.mem_filter.mpr ⟨List.mem_of_getElem? (i := 932) (by decide +kernel), by decide +kernel⟩
theorem mm_933 : Cond.code yX8_linesOf cX8_linesOf 6 (some .int) ∈ zGW := List.mem_filter.mpr ⟨List.mem_of_getElem? (i := 933) (by decide +kernel), by decide +kernel⟩
theorem mm_934 : Cond.methodLink RL 140 yX8_check ∈ zGW := List.mem_filter.mpr ⟨List.mem_of_getElem? (i := 934) (by decide +kernel), by decide +kernel⟩
theorem mm_935 : Cond.instanceMethod yX8_check ∈ zGW := List.mem_filter.mpr ⟨List.mem_of_getElem? (i := 935) (by decide +kernel), by decide +kernel⟩
theorem mm_936 : Cond.selects RX8 yX8_check yX8_check ∈ zGW := List.mem_filter.mpr ⟨List.mem_of_getElem? (i := 936) (by decide +kernel), by decide +kernel⟩
theorem mm_937 : Cond.code yX8_check cX8_check 6 (some .int) ∈ zGW := List.mem_filter.mpr ⟨List.mem_of_getElem? (i := 937) (by decide +kernel), by decide +kernel⟩
theorem mm_938 : Cond.methodLink RX8 314 yX7_number ∈ zGW := List.mem_filter.mpr ⟨List.mem_of_getElem? (i := 938) (by decide +kernel), by decide +kernel⟩
theorem mm_939 : Cond.instanceMethod yX7_number ∈ zGW := List.mem_filter.mpr ⟨List.mem_of_getElem? (i := 939) (by decide +kernel), by decide +kernel⟩
theorem mm_940 : Cond.selects RX7 yX7_number yX7_number ∈ zGW := List.mem_filter.mpr ⟨List.mem_of_getElem? (i := 940) (by decide +kernel), by decide +kernel⟩
theorem mm_941 : Cond.code yX7_number cX7_number 2 (some .int) ∈ zGW := List.mem_filter.mpr ⟨List.mem_of_getElem? (i := 941) (by decide +kernel), by decide +kernel⟩
theorem mm_942 : Cond.methodLink RX7 23 yX7_byteAt ∈ zGW := List.mem_filter.mpr ⟨List.mem_of_getElem? (i := 942) (by decide +kernel), by decide +kernel⟩
theorem mm_943 : Cond.methodLink RL 144 yX8_count ∈ zGW := List.mem_filter.mpr ⟨List.mem_of_getElem? (i := 943) (by decide +kernel), by decide +kernel⟩
theorem mm_944 : Cond.instanceMethod yX8_count ∈ zGW := List.mem_filter.mpr ⟨List.mem_of_getElem? (i := 944) (by decide +kernel), by decide +kernel⟩
theorem mm_945 : Cond.selects RX8 yX8_count yX8_count ∈ zGW := List.mem_filter.mpr ⟨List.mem_of_getElem? (i := 945) (by decide +kernel), by decide +kernel⟩
theorem mm_946 : Cond.code yX8_count cX8_count 2 (some .int) ∈ zGW := List.mem_filter.mpr ⟨List.mem_of_getElem? (i := 946) (by decide +kernel), by decide +kernel⟩
theorem mm_947 : Cond.methodLink RX8 316 yX8_toldGossips ∈ zGW := List.mem_filter.mpr ⟨List.mem_of_getElem? (i := 947) (by decide +kernel), by decide +kernel⟩
theorem mm_949 : Cond.instanceMethod yX8_toldGossips ∈ zGW := List.mem_filter.mpr ⟨List.mem_of_getElem? (i := 949) (by decide +kernel), by decide +kernel⟩
theorem mm_950 : Cond.code yX8_toldGossips cX8_toldGossips 3 (some .int) ∈ zGW := List.mem_filter.mpr ⟨List.mem_of_getElem? (i := 950) (by decide +kernel), by decide +kernel⟩
theorem mm_951 : Cond.classLink RL 10 RX9 ∈ zGW := List.mem_filter.mpr ⟨List.mem_of_getElem? (i := 951) (by decide +kernel), by decide +kernel⟩
theorem mm_952 : Cond.instantiable RX9 47 ∈ zGW := List.mem_filter.mpr ⟨List.mem_of_getElem? (i := 952) (by decide +kernel), by decide +kernel⟩
theorem mm_953 : Cond.methodLink RL 12 yX9_init ∈ zGW := List.mem_filter.mpr ⟨List.mem_of_getElem? (i := 953) (by decide +kernel), by decide +kernel⟩
theorem mm_954 : Cond.instanceMethod yX9_init ∈ zGW := List.mem_filter.mpr ⟨List.mem_of_getElem? (i := 954) (by decide +kernel), by decide +kernel⟩
theorem mm_955 : Cond.code yX9_init cX9_init 2 none ∈ zGW := List.mem_filter.mpr ⟨List.mem_of_getElem? (i := 955) (by decide +kernel), by decide +kernel⟩
theorem mm_956 : Cond.methodLink RX9 1 objectInit ∈ zGW := List.mem_filter.mpr ⟨List.mem_of_getElem? (i := 956) (by decide +kernel), by decide +kernel⟩
theorem mm_957 : Cond.constant RX9 72 (65536) ∈ zGW := List.mem_filter.mpr ⟨List.mem_of_getElem? (i := 957) (by decide +kernel), by decide +kernel⟩
theorem mm_958 : Cond.fieldLink RX9 107 "TwoFitModel" "people" "I" ∈ zGW := List.mem_filter.mpr ⟨List.mem_of_getElem? (i := 958) (by decide +kernel), by decide +kernel⟩
theorem mm_959 : Cond.fieldLink RX9 7 "TwoFitModel" "upperOf" "[I" ∈ zGW := List.mem_filter.mpr ⟨List.mem_of_getElem? (i := 959) (by decide +kernel), by decide +kernel⟩
theorem mm_960 : Cond.fieldLink RX9 13 "TwoFitModel" "weightOf" "[I" ∈ zGW := List.mem_filter.mpr ⟨List.mem_of_getElem? (i := 960) (by decide +kernel), by decide +kernel⟩
theorem mm_961 : Cond.fieldLink RX9 16 "TwoFitModel" "valueOf" "[I" ∈ zGW := List.mem_filter.mpr ⟨List.mem_of_getElem? (i := 961) (by decide +kernel), by decide +kernel⟩
theorem mm_962 : Cond.fieldLink RX9 19 "TwoFitModel" "wishOf" "[I" ∈ zGW := List.mem_filter.mpr ⟨List.mem_of_getElem? (i := 962) (by decide +kernel), by decide +kernel⟩
theorem mm_963 : Cond.fieldLink RX9 133 "TwoFitModel" "books" "I" ∈ zGW := List.mem_filter.mpr ⟨List.mem_of_getElem? (i := 963) (by decide +kernel), by decide +kernel⟩
theorem mm_964 : Cond.fieldLink RX9 169 "TwoFitModel" "links" "I" ∈ zGW := List.mem_filter.mpr ⟨List.mem_of_getElem? (i := 964) (by decide +kernel), by decide +kernel⟩
theorem mm_965 : Cond.fieldLink RX9 261 "TwoFitModel" "gossips" "I" ∈ zGW := List.mem_filter.mpr ⟨List.mem_of_getElem? (i := 965) (by decide +kernel), by decide +kernel⟩
theorem mm_966 : Cond.fieldLink RX9 155 "TwoFitModel" "shownSet" "I" ∈ zGW := List.mem_filter.mpr ⟨List.mem_of_getElem? (i := 966) (by decide +kernel), by decide +kernel⟩
theorem mm_967 : Cond.fieldLink RX9 22 "TwoFitModel" "lineMany" "[I" ∈ zGW := List.mem_filter.mpr ⟨List.mem_of_getElem? (i := 967) (by decide +kernel), by decide +kernel⟩
theorem mm_968 : Cond.fieldLink RX9 25 "TwoFitModel" "ownerOf" "[I" ∈ zGW := List.mem_filter.mpr ⟨List.mem_of_getElem? (i := 968) (by decide +kernel), by decide +kernel⟩
theorem mm_969 : Cond.fieldLink RX9 28 "TwoFitModel" "showsOf" "[I" ∈ zGW := List.mem_filter.mpr ⟨List.mem_of_getElem? (i := 969) (by decide +kernel), by decide +kernel⟩
theorem mm_970 : Cond.fieldLink RX9 31 "TwoFitModel" "linkA" "[I" ∈ zGW := List.mem_filter.mpr ⟨List.mem_of_getElem? (i := 970) (by decide +kernel), by decide +kernel⟩
theorem mm_971 : Cond.fieldLink RX9 34 "TwoFitModel" "linkB" "[I" ∈ zGW := List.mem_filter.mpr ⟨List.mem_of_getElem? (i := 971) (by decide +kernel), by decide +kernel⟩
theorem mm_972 : Cond.fieldLink RX9 37 "TwoFitModel" "isCut" "[Z" ∈ zGW := List.mem_filter.mpr ⟨List.mem_of_getElem? (i := 972) (by decide +kernel), by decide +kernel⟩
theorem mm_973 : Cond.fieldLink RX9 41 "TwoFitModel" "tape" "[B" ∈ zGW := List.mem_filter.mpr ⟨List.mem_of_getElem? (i := 973) (by decide +kernel), by decide +kernel⟩
theorem mm_974 : Cond.fieldLink RX9 149 "TwoFitModel" "taped" "I" ∈ zGW := List.mem_filter.mpr ⟨List.mem_of_getElem? (i := 974) (by decide +kernel), by decide +kernel⟩
theorem mm_975 : Cond.fieldLink RX9 176 "TwoFitModel" "place0" "I" ∈ zGW := List.mem_filter.mpr ⟨List.mem_of_getElem? (i := 975) (by decide +kernel), by decide +kernel⟩
theorem mm_976 : Cond.fieldLink RX9 179 "TwoFitModel" "length0" "I" ∈ zGW := List.mem_filter.mpr ⟨List.mem_of_getElem? (i := 976) (by decide +kernel), by decide +kernel⟩
theorem mm_977 : Cond.fieldLink RX9 186 "TwoFitModel" "fault" "I" ∈ zGW := List.mem_filter.mpr ⟨List.mem_of_getElem? (i := 977) (by decide +kernel), by decide +kernel⟩
theorem mm_978 : Cond.fieldLink RX9 203 "TwoFitModel" "open" "I" ∈ zGW := List.mem_filter.mpr ⟨List.mem_of_getElem? (i := 978) (by decide +kernel), by decide +kernel⟩
theorem mm_979 : Cond.fieldLink RX9 199 "TwoFitModel" "codeMany" "I" ∈ zGW := List.mem_filter.mpr ⟨List.mem_of_getElem? (i := 979) (by decide +kernel), by decide +kernel⟩
theorem mm_980 : Cond.fieldLink RX9 206 "TwoFitModel" "waiting" "I" ∈ zGW := List.mem_filter.mpr ⟨List.mem_of_getElem? (i := 980) (by decide +kernel), by decide +kernel⟩
theorem mm_981 : Cond.fieldLink RX9 192 "TwoFitModel" "number0" "I" ∈ zGW := List.mem_filter.mpr ⟨List.mem_of_getElem? (i := 981) (by decide +kernel), by decide +kernel⟩
theorem mm_982 : Cond.fieldLink RX9 45 "TwoFitModel" "said" "[I" ∈ zGW := List.mem_filter.mpr ⟨List.mem_of_getElem? (i := 982) (by decide +kernel), by decide +kernel⟩
theorem mm_983 : Cond.fieldLink RX9 48 "TwoFitModel" "waits" "[I" ∈ zGW := List.mem_filter.mpr ⟨List.mem_of_getElem? (i := 983) (by decide +kernel), by decide +kernel⟩
theorem mm_984 : Cond.fieldLink RX9 51 "TwoFitModel" "codes" "[I" ∈ zGW := List.mem_filter.mpr ⟨List.mem_of_getElem? (i := 984) (by decide +kernel), by decide +kernel⟩
theorem mm_985 : Cond.fieldLink RX9 54 "TwoFitModel" "codeTo" "[I" ∈ zGW := List.mem_filter.mpr ⟨List.mem_of_getElem? (i := 985) (by decide +kernel), by decide +kernel⟩
theorem mm_986 : Cond.fieldLink RX9 57 "TwoFitModel" "gossipOf" "[I" ∈ zGW := List.mem_filter.mpr ⟨List.mem_of_getElem? (i := 986) (by decide +kernel), by decide +kernel⟩
theorem mm_987 : Cond.fieldLink RX9 60 "TwoFitModel" "stack" "[I" ∈ zGW := List.mem_filter.mpr ⟨List.mem_of_getElem? (i := 987) (by decide +kernel), by decide +kernel⟩
theorem mm_988 : Cond.fieldLink RX9 63 "TwoFitModel" "facts" "[I" ∈ zGW := List.mem_filter.mpr ⟨List.mem_of_getElem? (i := 988) (by decide +kernel), by decide +kernel⟩
theorem mm_989 : Cond.fieldLink RX9 66 "TwoFitModel" "isReached" "[Z" ∈ zGW := List.mem_filter.mpr ⟨List.mem_of_getElem? (i := 989) (by decide +kernel), by decide +kernel⟩
theorem mm_990 : Cond.fieldLink RX9 69 "TwoFitModel" "fitting" "[I" ∈ zGW := List.mem_filter.mpr ⟨List.mem_of_getElem? (i := 990) (by decide +kernel), by decide +kernel⟩
theorem mm_991 : Cond.fieldLink RX9 73 "TwoFitModel" "ways" "[J" ∈ zGW := List.mem_filter.mpr ⟨List.mem_of_getElem? (i := 991) (by decide +kernel), by decide +kernel⟩
theorem mm_992 : Cond.fieldLink RX9 77 "TwoFitModel" "ones" "[I" ∈ zGW := List.mem_filter.mpr ⟨List.mem_of_getElem? (i := 992) (by decide +kernel), by decide +kernel⟩
theorem mm_993 : Cond.fieldLink RX9 80 "TwoFitModel" "hasOf" "[I" ∈ zGW := List.mem_filter.mpr ⟨List.mem_of_getElem? (i := 993) (by decide +kernel), by decide +kernel⟩
theorem mm_994 : Cond.fieldLink RX9 83 "TwoFitModel" "givenTo" "[I" ∈ zGW := List.mem_filter.mpr ⟨List.mem_of_getElem? (i := 994) (by decide +kernel), by decide +kernel⟩
theorem mm_995 : Cond.fieldLink RX9 86 "TwoFitModel" "askedBy" "[I" ∈ zGW := List.mem_filter.mpr ⟨List.mem_of_getElem? (i := 995) (by decide +kernel), by decide +kernel⟩
theorem mm_996 : Cond.fieldLink RX9 89 "TwoFitModel" "waitingLine" "[I" ∈ zGW := List.mem_filter.mpr ⟨List.mem_of_getElem? (i := 996) (by decide +kernel), by decide +kernel⟩
theorem mm_997 : Cond.fieldLink RX9 92 "TwoFitModel" "before" "[I" ∈ zGW := List.mem_filter.mpr ⟨List.mem_of_getElem? (i := 997) (by decide +kernel), by decide +kernel⟩
theorem mm_998 : Cond.fieldLink RX9 339 "TwoFitModel" "must0" "I" ∈ zGW := List.mem_filter.mpr ⟨List.mem_of_getElem? (i := 998) (by decide +kernel), by decide +kernel⟩
theorem mm_999 : Cond.fieldLink RX9 348 "TwoFitModel" "suspects" "I" ∈ zGW := List.mem_filter.mpr ⟨List.mem_of_getElem? (i := 999) (by decide +kernel), by decide +kernel⟩
theorem mm_1000 : Cond.fieldLink RX9 95 "TwoFitModel" "suspect" "[I" ∈ zGW := List.mem_filter.mpr ⟨List.mem_of_getElem? (i := 1000) (by decide +kernel), by decide +kernel⟩
theorem mm_1001 : Cond.fieldLink RX9 98 "TwoFitModel" "parts" "[I" ∈ zGW := List.mem_filter.mpr ⟨List.mem_of_getElem? (i := 1001) (by decide +kernel), by decide +kernel⟩
theorem mm_1002 : Cond.fieldLink RX9 101 "TwoFitModel" "enough" "[I" ∈ zGW := List.mem_filter.mpr ⟨List.mem_of_getElem? (i := 1002) (by decide +kernel), by decide +kernel⟩
theorem mm_1003 : Cond.fieldLink RX9 104 "TwoFitModel" "blurShows" "[I" ∈ zGW := List.mem_filter.mpr ⟨List.mem_of_getElem? (i := 1003) (by decide +kernel), by decide +kernel⟩
theorem mm_1004 : Cond.fieldLink RX9 361 "TwoFitModel" "cuts0" "I" ∈ zGW := List.mem_filter.mpr ⟨List.mem_of_getElem? (i := 1004) (by decide +kernel), by decide +kernel⟩
theorem mm_1100 : Cond.arrayClass .boolean ∈ zGW := List.mem_filter.mpr ⟨List.mem_of_getElem? (i := 1100) (by decide +kernel), by decide +kernel⟩
theorem mm_1101 : Cond.arrayClass .byte ∈ zGW := List.mem_filter.mpr ⟨List.mem_of_getElem? (i := 1101) (by decide +kernel), by decide +kernel⟩
theorem mm_1102 : Cond.methodLink RL 17 yX9_upper ∈ zGW := List.mem_filter.mpr ⟨List.mem_of_getElem? (i := 1102) (by decide +kernel), by decide +kernel⟩
theorem mm_1103 : Cond.instanceMethod yX9_upper ∈ zGW := List.mem_filter.mpr ⟨List.mem_of_getElem? (i := 1103) (by decide +kernel), by decide +kernel⟩
theorem mm_1104 : Cond.selects RX9 yX9_upper yX9_upper ∈ zGW := List.mem_filter.mpr ⟨List.mem_of_getElem? (i := 1104) (by decide +kernel), by decide +kernel⟩
theorem mm_1105 : Cond.code yX9_upper cX9_upper 4 (some .boolean) ∈ zGW := List.mem_filter.mpr ⟨List.mem_of_getElem? (i := 1105) (by decide +kernel), by decide +kernel⟩
theorem mm_1106 : Cond.methodLink RX9 111 yX9_isColumn ∈ zGW := List.mem_filter.mpr ⟨List.mem_of_getElem? (i := 1106) (by decide +kernel), by decide +kernel⟩
theorem mm_1107 : Cond.static yX9_isColumn ∈ zGW := List.mem_filter.mpr ⟨List.mem_of_getElem? (i := 1107) (by decide +kernel), by decide +kernel⟩
theorem mm_1108 : Cond.code yX9_isColumn cX9_isColumn 1 (some .boolean) ∈ zGW := List.mem_filter.mpr ⟨List.mem_of_getElem? (i := 1108) (by decide +kernel), by decide +kernel⟩
theorem mm_1109 : Cond.methodLink RX9 115 yX9_in ∈ zGW := List.mem_filter.mpr ⟨List.mem_of_getElem? (i := 1109) (by decide +kernel), by decide +kernel⟩
theorem mm_1110 : Cond.static yX9_in ∈ zGW := List.mem_filter.mpr ⟨List.mem_of_getElem? (i := 1110) (by decide +kernel), by decide +kernel⟩
theorem mm_1111 : Cond.code yX9_in cX9_in 3 (some .boolean) ∈ zGW := List.mem_filter.mpr ⟨List.mem_of_getElem? (i := 1111) (by decide +kernel), by decide +kernel⟩
theorem mm_1112 : Cond.methodLink RL 22 yX9_weight ∈ zGW := List.mem_filter.mpr ⟨List.mem_of_getElem? (i := 1112) (by decide +kernel), by decide +kernel⟩
theorem mm_1113 : Cond.instanceMethod yX9_weight ∈ zGW := List.mem_filter.mpr ⟨List.mem_of_getElem? (i := 1113) (by decide +kernel), by decide +kernel⟩
theorem mm_1114 : Cond.selects RX9 yX9_weight yX9_weight ∈ zGW := List.mem_filter.mpr ⟨List.mem_of_getElem? (i := 1114) (by decide +kernel), by decide +kernel⟩
theorem mm_1115 : Cond.code yX9_weight cX9_weight 3 (some .boolean) ∈ zGW := List.mem_filter.mpr ⟨List.mem_of_getElem? (i := 1115) (by decide +kernel), by decide +kernel⟩
theorem mm_1116 : Cond.methodLink RL 27 yX9_person ∈ zGW := List.mem_filter.mpr ⟨List.mem_of_getElem? (i := 1116) (by decide +kernel), by decide +kernel⟩
theorem mm_1117 : Cond.instanceMethod yX9_person ∈ zGW := List.mem_filter.mpr ⟨List.mem_of_getElem? (i := 1117) (by decide +kernel), by decide +kernel⟩
theorem mm_1118 : Cond.selects RX9 yX9_person yX9_person ∈ zGW := List.mem_filter.mpr ⟨List.mem_of_getElem? (i := 1118) (by decide +kernel), by decide +kernel⟩
theorem mm_1119 : Cond.code yX9_person cX9_person 5 (some .int) ∈ zGW := List.mem_filter.mpr ⟨List.mem_of_getElem? (i := 1119) (by decide +kernel), by decide +kernel⟩
theorem mm_1120 : Cond.methodLink RL 31 yX9_wish ∈ zGW := List.mem_filter.mpr ⟨List.mem_of_getElem? (i := 1120) (by decide +kernel), by decide +kernel⟩
theorem mm_1121 : Cond.instanceMethod yX9_wish ∈ zGW := List.mem_filter.mpr ⟨List.mem_of_getElem? (i := 1121) (by decide +kernel), by decide +kernel⟩
theorem mm_1122 : Cond.selects RX9 yX9_wish yX9_wish ∈ zGW := List.mem_filter.mpr ⟨List.mem_of_getElem? (i := 1122) (by decide +kernel), by decide +kernel⟩
theorem mm_1123 : Cond.code yX9_wish cX9_wish 3 (some .boolean) ∈ zGW := List.mem_filter.mpr ⟨List.mem_of_getElem? (i := 1123) (by decide +kernel), by decide +kernel⟩
theorem mm_1124 : Cond.methodLink RX9 119 yX9_isPerson ∈ zGW := List.mem_filter.mpr ⟨List.mem_of_getElem? (i := 1124) (by decide +kernel), by decide +kernel⟩
theorem mm_1126 : Cond.instanceMethod yX9_isPerson ∈ zGW := List.mem_filter.mpr ⟨List.mem_of_getElem? (i := 1126) (by decide +kernel), by decide +kernel⟩
theorem mm_1127 : Cond.code yX9_isPerson cX9_isPerson 2 (some .boolean) ∈ zGW := List.mem_filter.mpr ⟨List.mem_of_getElem? (i := 1127) (by decide +kernel), by decide +kernel⟩
theorem mm_1128 : Cond.methodLink RL 41 yX9_blurred ∈ zGW := List.mem_filter.mpr ⟨List.mem_of_getElem? (i := 1128) (by decide +kernel), by decide +kernel⟩
theorem mm_1129 : Cond.instanceMethod yX9_blurred ∈ zGW := List.mem_filter.mpr ⟨List.mem_of_getElem? (i := 1129) (by decide +kernel), by decide +kernel⟩
theorem mm_1130 : Cond.selects RX9 yX9_blurred yX9_blurred ∈ zGW := List.mem_filter.mpr ⟨List.mem_of_getElem? (i := 1130) (by decide +kernel), by decide +kernel⟩
theorem mm_1131 : Cond.code yX9_blurred cX9_blurred 4 (some .int) ∈ zGW := List.mem_filter.mpr ⟨List.mem_of_getElem? (i := 1131) (by decide +kernel), by decide +kernel⟩
theorem mm_1132 : Cond.methodLink RX9 122 yX9_blurs ∈ zGW := List.mem_filter.mpr ⟨List.mem_of_getElem? (i := 1132) (by decide +kernel), by decide +kernel⟩
theorem mm_1134 : Cond.instanceMethod yX9_blurs ∈ zGW := List.mem_filter.mpr ⟨List.mem_of_getElem? (i := 1134) (by decide +kernel), by decide +kernel⟩
theorem mm_1135 : Cond.code yX9_blurs cX9_blurs 6 (some .int) ∈ zGW := List.mem_filter.mpr ⟨List.mem_of_getElem? (i := 1135) (by decide +kernel), by decide +kernel⟩
theorem mm_1136 : Cond.methodLink RL 46 yX9_size ∈ zGW := List.mem_filter.mpr ⟨List.mem_of_getElem? (i := 1136) (by decide +kernel), by decide +kernel⟩
theorem mm_1137 : Cond.instanceMethod yX9_size ∈ zGW := List.mem_filter.mpr ⟨List.mem_of_getElem? (i := 1137) (by decide +kernel), by decide +kernel⟩
theorem mm_1138 : Cond.selects RX9 yX9_size yX9_size ∈ zGW := List.mem_filter.mpr ⟨List.mem_of_getElem? (i := 1138) (by decide +kernel), by decide +kernel⟩
theorem mm_1139 : Cond.code yX9_size cX9_size 3 (some .int) ∈ zGW := List.mem_filter.mpr ⟨List.mem_of_getElem? (i := 1139) (by decide +kernel), by decide +kernel⟩
theorem mm_1140 : Cond.methodLink RX9 129 yX9_sizeOf ∈ zGW := List.mem_filter.mpr ⟨List.mem_of_getElem? (i := 1140) (by decide +kernel), by decide +kernel⟩
theorem mm_1142 : Cond.instanceMethod yX9_sizeOf ∈ zGW := List.mem_filter.mpr ⟨List.mem_of_getElem? (i := 1142) (by decide +kernel), by decide +kernel⟩
theorem mm_1143 : Cond.code yX9_sizeOf cX9_sizeOf 5 (some .int) ∈ zGW := List.mem_filter.mpr ⟨List.mem_of_getElem? (i := 1143) (by decide +kernel), by decide +kernel⟩
theorem mm_1144 : Cond.methodLink RX9 126 yX9_isBelow ∈ zGW := List.mem_filter.mpr ⟨List.mem_of_getElem? (i := 1144) (by decide +kernel), by decide +kernel⟩
theorem mm_1146 : Cond.instanceMethod yX9_isBelow ∈ zGW := List.mem_filter.mpr ⟨List.mem_of_getElem? (i := 1146) (by decide +kernel), by decide +kernel⟩
theorem mm_1147 : Cond.code yX9_isBelow cX9_isBelow 5 (some .boolean) ∈ zGW := List.mem_filter.mpr ⟨List.mem_of_getElem? (i := 1147) (by decide +kernel), by decide +kernel⟩
theorem mm_1148 : Cond.methodLink RL 50 yX9_book ∈ zGW := List.mem_filter.mpr ⟨List.mem_of_getElem? (i := 1148) (by decide +kernel), by decide +kernel⟩
theorem mm_1149 : Cond.instanceMethod yX9_book ∈ zGW := List.mem_filter.mpr ⟨List.mem_of_getElem? (i := 1149) (by decide +kernel), by decide +kernel⟩
theorem mm_1150 : Cond.selects RX9 yX9_book yX9_book ∈ zGW := List.mem_filter.mpr ⟨List.mem_of_getElem? (i := 1150) (by decide +kernel), by decide +kernel⟩
theorem mm_1151 : Cond.code yX9_book cX9_book 8 (some .int) ∈ zGW := List.mem_filter.mpr ⟨List.mem_of_getElem? (i := 1151) (by decide +kernel), by decide +kernel⟩
theorem mm_1152 : Cond.methodLink RX9 146 yX9_isLevel ∈ zGW := List.mem_filter.mpr ⟨List.mem_of_getElem? (i := 1152) (by decide +kernel), by decide +kernel⟩
theorem mm_1153 : Cond.static yX9_isLevel ∈ zGW := List.mem_filter.mpr ⟨List.mem_of_getElem? (i := 1153) (by decide +kernel), by decide +kernel⟩
theorem mm_1154 : Cond.code yX9_isLevel cX9_isLevel 1 (some .boolean) ∈ zGW := List.mem_filter.mpr ⟨List.mem_of_getElem? (i := 1154) (by decide +kernel), by decide +kernel⟩
theorem mm_1155 : Cond.methodLink RX9 152 yX9_areTold ∈ zGW := List.mem_filter.mpr ⟨List.mem_of_getElem? (i := 1155) (by decide +kernel), by decide +kernel⟩
theorem mm_1157 : Cond.instanceMethod yX9_areTold ∈ zGW := List.mem_filter.mpr ⟨List.mem_of_getElem? (i := 1157) (by decide +kernel), by decide +kernel⟩
theorem mm_1158 : Cond.code yX9_areTold cX9_areTold 5 (some .boolean) ∈ zGW := List.mem_filter.mpr ⟨List.mem_of_getElem? (i := 1158) (by decide +kernel), by decide +kernel⟩
theorem mm_1159 : Cond.methodLink RX9 143 yX9_at ∈ zGW := List.mem_filter.mpr ⟨List.mem_of_getElem? (i := 1159) (by decide +kernel), by decide +kernel⟩
theorem mm_1160 : Cond.static yX9_at ∈ zGW := List.mem_filter.mpr ⟨List.mem_of_getElem? (i := 1160) (by decide +kernel), by decide +kernel⟩
theorem mm_1161 : Cond.code yX9_at cX9_at 2 (some .int) ∈ zGW := List.mem_filter.mpr ⟨List.mem_of_getElem? (i := 1161) (by decide +kernel), by decide +kernel⟩
theorem mm_1162 : Cond.methodLink RL 54 yX9_cut ∈ zGW := List.mem_filter.mpr ⟨List.mem_of_getElem? (i := 1162) (by decide +kernel), by decide +kernel⟩
theorem mm_1163 : Cond.instanceMethod yX9_cut ∈ zGW := List.mem_filter.mpr ⟨List.mem_of_getElem? (i := 1163) (by decide +kernel), by decide +kernel⟩
theorem mm_1164 : Cond.selects RX9 yX9_cut yX9_cut ∈ zGW := List.mem_filter.mpr ⟨List.mem_of_getElem? (i := 1164) (by decide +kernel), by decide +kernel⟩
theorem mm_1165 : Cond.code yX9_cut cX9_cut 3 (some .boolean) ∈ zGW := List.mem_filter.mpr ⟨List.mem_of_getElem? (i := 1165) (by decide +kernel), by decide +kernel⟩
theorem mm_1166 : Cond.methodLink RX9 158 yX9_isThere ∈ zGW := List.mem_filter.mpr ⟨List.mem_of_getElem? (i := 1166) (by decide +kernel), by decide +kernel⟩
theorem mm_1168 : Cond.instanceMethod yX9_isThere ∈ zGW := List.mem_filter.mpr ⟨List.mem_of_getElem? (i := 1168) (by decide +kernel), by decide +kernel⟩
theorem mm_1169 : Cond.code yX9_isThere cX9_isThere 3 (some .boolean) ∈ zGW := List.mem_filter.mpr ⟨List.mem_of_getElem? (i := 1169) (by decide +kernel), by decide +kernel⟩
theorem mm_1170 : Cond.methodLink RX9 139 yX9_isLine ∈ zGW := List.mem_filter.mpr ⟨List.mem_of_getElem? (i := 1170) (by decide +kernel), by decide +kernel⟩
theorem mm_1172 : Cond.instanceMethod yX9_isLine ∈ zGW := List.mem_filter.mpr ⟨List.mem_of_getElem? (i := 1172) (by decide +kernel), by decide +kernel⟩
theorem mm_1173 : Cond.code yX9_isLine cX9_isLine 3 (some .boolean) ∈ zGW := List.mem_filter.mpr ⟨List.mem_of_getElem? (i := 1173) (by decide +kernel), by decide +kernel⟩
theorem mm_1174 : Cond.methodLink RX9 136 yX9_isBook ∈ zGW := List.mem_filter.mpr ⟨List.mem_of_getElem? (i := 1174) (by decide +kernel), by decide +kernel⟩
theorem mm_1176 : Cond.instanceMethod yX9_isBook ∈ zGW := List.mem_filter.mpr ⟨List.mem_of_getElem? (i := 1176) (by decide +kernel), by decide +kernel⟩
theorem mm_1177 : Cond.code yX9_isBook cX9_isBook 2 (some .boolean) ∈ zGW := List.mem_filter.mpr ⟨List.mem_of_getElem? (i := 1177) (by decide +kernel), by decide +kernel⟩
theorem mm_1178 : Cond.methodLink RL 59 yX9_swap ∈ zGW := List.mem_filter.mpr ⟨List.mem_of_getElem? (i := 1178) (by decide +kernel), by decide +kernel⟩
theorem mm_1179 : Cond.instanceMethod yX9_swap ∈ zGW := List.mem_filter.mpr ⟨List.mem_of_getElem? (i := 1179) (by decide +kernel), by decide +kernel⟩
theorem mm_1180 : Cond.selects RX9 yX9_swap yX9_swap ∈ zGW := List.mem_filter.mpr ⟨List.mem_of_getElem? (i := 1180) (by decide +kernel), by decide +kernel⟩
theorem mm_1181 : Cond.code yX9_swap cX9_swap 5 (some .boolean) ∈ zGW := List.mem_filter.mpr ⟨List.mem_of_getElem? (i := 1181) (by decide +kernel), by decide +kernel⟩
theorem mm_1182 : Cond.methodLink RX9 161 yX9_canSwap ∈ zGW := List.mem_filter.mpr ⟨List.mem_of_getElem? (i := 1182) (by decide +kernel), by decide +kernel⟩
theorem mm_1184 : Cond.instanceMethod yX9_canSwap ∈ zGW := List.mem_filter.mpr ⟨List.mem_of_getElem? (i := 1184) (by decide +kernel), by decide +kernel⟩
theorem mm_1185 : Cond.code yX9_canSwap cX9_canSwap 5 (some .boolean) ∈ zGW := List.mem_filter.mpr ⟨List.mem_of_getElem? (i := 1185) (by decide +kernel), by decide +kernel⟩
theorem mm_1186 : Cond.methodLink RX9 165 yX9_swaps ∈ zGW := List.mem_filter.mpr ⟨List.mem_of_getElem? (i := 1186) (by decide +kernel), by decide +kernel⟩
theorem mm_1188 : Cond.instanceMethod yX9_swaps ∈ zGW := List.mem_filter.mpr ⟨List.mem_of_getElem? (i := 1188) (by decide +kernel), by decide +kernel⟩
theorem mm_1189 : Cond.code yX9_swaps cX9_swaps 6 none ∈ zGW := List.mem_filter.mpr ⟨List.mem_of_getElem? (i := 1189) (by decide +kernel), by decide +kernel⟩
theorem mm_1190 : Cond.methodLink RL 64 yX9_show ∈ zGW := List.mem_filter.mpr ⟨List.mem_of_getElem? (i := 1190) (by decide +kernel), by decide +kernel⟩
theorem mm_1191 : Cond.instanceMethod yX9_show ∈ zGW := List.mem_filter.mpr ⟨List.mem_of_getElem? (i := 1191) (by decide +kernel), by decide +kernel⟩
theorem mm_1192 : Cond.selects RX9 yX9_show yX9_show ∈ zGW := List.mem_filter.mpr ⟨List.mem_of_getElem? (i := 1192) (by decide +kernel), by decide +kernel⟩
theorem mm_1193 : Cond.code yX9_show cX9_show 3 (some .boolean) ∈ zGW := List.mem_filter.mpr ⟨List.mem_of_getElem? (i := 1193) (by decide +kernel), by decide +kernel⟩
theorem mm_1194 : Cond.methodLink RL 68 yX9_link ∈ zGW := List.mem_filter.mpr ⟨List.mem_of_getElem? (i := 1194) (by decide +kernel), by decide +kernel⟩
theorem mm_1195 : Cond.instanceMethod yX9_link ∈ zGW := List.mem_filter.mpr ⟨List.mem_of_getElem? (i := 1195) (by decide +kernel), by decide +kernel⟩
theorem mm_1196 : Cond.selects RX9 yX9_link yX9_link ∈ zGW := List.mem_filter.mpr ⟨List.mem_of_getElem? (i := 1196) (by decide +kernel), by decide +kernel⟩
theorem mm_1197 : Cond.code yX9_link cX9_link 5 (some .int) ∈ zGW := List.mem_filter.mpr ⟨List.mem_of_getElem? (i := 1197) (by decide +kernel), by decide +kernel⟩
theorem mm_1198 : Cond.methodLink RL 36 yX9_feed ∈ zGW := List.mem_filter.mpr ⟨List.mem_of_getElem? (i := 1198) (by decide +kernel), by decide +kernel⟩
theorem mm_1199 : Cond.instanceMethod yX9_feed ∈ zGW := List.mem_filter.mpr ⟨List.mem_of_getElem? (i := 1199) (by decide +kernel), by decide +kernel⟩
theorem mm_1200 : Cond.selects RX9 yX9_feed yX9_feed ∈ zGW := List.mem_filter.mpr ⟨List.mem_of_getElem? (i := 1200) (by decide +kernel), by decide +kernel⟩
theorem mm_1201 : Cond.code yX9_feed cX9_feed 6 (some .int) ∈ zGW := List.mem_filter.mpr ⟨List.mem_of_getElem? (i := 1201) (by decide +kernel), by decide +kernel⟩
theorem mm_1202 : Cond.methodLink RX9 172 yX9_types ∈ zGW := List.mem_filter.mpr ⟨List.mem_of_getElem? (i := 1202) (by decide +kernel), by decide +kernel⟩
theorem mm_1204 : Cond.instanceMethod yX9_types ∈ zGW := List.mem_filter.mpr ⟨List.mem_of_getElem? (i := 1204) (by decide +kernel), by decide +kernel⟩
theorem mm_1205 : Cond.code yX9_types cX9_types 3 none ∈ zGW := List.mem_filter.mpr ⟨List.mem_of_getElem? (i := 1205) (by decide +kernel), by decide +kernel⟩
theorem mm_1206 : Cond.methodLink RL 72 yX9_gossip ∈ zGW := List.mem_filter.mpr ⟨List.mem_of_getElem? (i := 1206) (by decide +kernel), by decide +kernel⟩
theorem mm_1207 : Cond.instanceMethod yX9_gossip ∈ zGW := List.mem_filter.mpr ⟨List.mem_of_getElem? (i := 1207) (by decide +kernel), by decide +kernel⟩
theorem mm_1208 : Cond.selects RX9 yX9_gossip yX9_gossip ∈ zGW := List.mem_filter.mpr ⟨List.mem_of_getElem? (i := 1208) (by decide +kernel), by decide +kernel⟩
theorem mm_1209 : Cond.code yX9_gossip cX9_gossip 7 (some .int) ∈ zGW := List.mem_filter.mpr ⟨List.mem_of_getElem? (i := 1209) (by decide +kernel), by decide +kernel⟩
theorem mm_1210 : Cond.methodLink RX9 258 yX9_readsWhole ∈ zGW := List.mem_filter.mpr ⟨List.mem_of_getElem? (i := 1210) (by decide +kernel), by decide +kernel⟩
theorem mm_1212 : Cond.instanceMethod yX9_readsWhole ∈ zGW := List.mem_filter.mpr ⟨List.mem_of_getElem? (i := 1212) (by decide +kernel), by decide +kernel⟩
theorem mm_1213 : Cond.code yX9_readsWhole cX9_readsWhole 1 (some .boolean) ∈ zGW := List.mem_filter.mpr ⟨List.mem_of_getElem? (i := 1213) (by decide +kernel), by decide +kernel⟩
theorem mm_1214 : Cond.constant RX9 248 (13631488) ∈ zGW := List.mem_filter.mpr ⟨List.mem_of_getElem? (i := 1214) (by decide +kernel), by decide +kernel⟩
theorem mm_1215 : Cond.methodLink RX9 182 yX9_here ∈ zGW := List.mem_filter.mpr ⟨List.mem_of_getElem? (i := 1215) (by decide +kernel), by decide +kernel⟩
theorem mm_1217 : Cond.instanceMethod yX9_here ∈ zGW := List.mem_filter.mpr ⟨List.mem_of_getElem? (i := 1217) (by decide +kernel), by decide +kernel⟩
theorem mm_1218 : Cond.code yX9_here cX9_here 1 (some .int) ∈ zGW := List.mem_filter.mpr ⟨List.mem_of_getElem? (i := 1218) (by decide +kernel), by decide +kernel⟩
theorem mm_1219 : Cond.methodLink RX9 216 yX9_opens ∈ zGW := List.mem_filter.mpr ⟨List.mem_of_getElem? (i := 1219) (by decide +kernel), by decide +kernel⟩
theorem mm_1221 : Cond.instanceMethod yX9_opens ∈ zGW := List.mem_filter.mpr ⟨List.mem_of_getElem? (i := 1221) (by decide +kernel), by decide +kernel⟩
theorem mm_1222 : Cond.code yX9_opens cX9_opens 2 (some .boolean) ∈ zGW := List.mem_filter.mpr ⟨List.mem_of_getElem? (i := 1222) (by decide +kernel), by decide +kernel⟩
theorem mm_1223 : Cond.methodLink RX9 189 yX9_wrongAt ∈ zGW := List.mem_filter.mpr ⟨List.mem_of_getElem? (i := 1223) (by decide +kernel), by decide +kernel⟩
theorem mm_1225 : Cond.instanceMethod yX9_wrongAt ∈ zGW := List.mem_filter.mpr ⟨List.mem_of_getElem? (i := 1225) (by decide +kernel), by decide +kernel⟩
theorem mm_1226 : Cond.code yX9_wrongAt cX9_wrongAt 3 (some .boolean) ∈ zGW := List.mem_filter.mpr ⟨List.mem_of_getElem? (i := 1226) (by decide +kernel), by decide +kernel⟩
theorem mm_1227 : Cond.constant RX9 202 (1048576) ∈ zGW := List.mem_filter.mpr ⟨List.mem_of_getElem? (i := 1227) (by decide +kernel), by decide +kernel⟩
theorem mm_1228 : Cond.methodLink RX9 249 yX9_readsCompared ∈ zGW := List.mem_filter.mpr ⟨List.mem_of_getElem? (i := 1228) (by decide +kernel), by decide +kernel⟩
theorem mm_1230 : Cond.instanceMethod yX9_readsCompared ∈ zGW := List.mem_filter.mpr ⟨List.mem_of_getElem? (i := 1230) (by decide +kernel), by decide +kernel⟩
theorem mm_1231 : Cond.code yX9_readsCompared cX9_readsCompared 2 (some .boolean) ∈ zGW := List.mem_filter.mpr ⟨List.mem_of_getElem? (i := 1231) (by decide +kernel), by decide +kernel⟩
theorem mm_1232 : Cond.methodLink RX9 239 yX9_readsSum ∈ zGW := List.mem_filter.mpr ⟨List.mem_of_getElem? (i := 1232) (by decide +kernel), by decide +kernel⟩
theorem mm_1234 : Cond.instanceMethod yX9_readsSum ∈ zGW := List.mem_filter.mpr ⟨List.mem_of_getElem? (i := 1234) (by decide +kernel), by decide +kernel⟩
theorem mm_1235 : Cond.code yX9_readsSum cX9_readsSum 3 (some .boolean) ∈ zGW := List.mem_filter.mpr ⟨List.mem_of_getElem? (i := 1235) (by decide +kernel), by decide +kernel⟩
theorem mm_1236 : Cond.methodLink RX9 226 yX9_readsFactor ∈ zGW := List.mem_filter.mpr ⟨List.mem_of_getElem? (i := 1236) (by decide +kernel), by decide +kernel⟩
theorem mm_1238 : Cond.instanceMethod yX9_readsFactor ∈ zGW := List.mem_filter.mpr ⟨List.mem_of_getElem? (i := 1238) (by decide +kernel), by decide +kernel⟩
theorem mm_1239 : Cond.code yX9_readsFactor cX9_readsFactor 2 (some .boolean) ∈ zGW := List.mem_filter.mpr ⟨List.mem_of_getElem? (i := 1239) (by decide +kernel), by decide +kernel⟩
theorem mm_1240 : Cond.methodLink RX9 195 yX9_isDigit ∈ zGW := List.mem_filter.mpr ⟨List.mem_of_getElem? (i := 1240) (by decide +kernel), by decide +kernel⟩
theorem mm_1242 : Cond.instanceMethod yX9_isDigit ∈ zGW := List.mem_filter.mpr ⟨List.mem_of_getElem? (i := 1242) (by decide +kernel), by decide +kernel⟩
theorem mm_1243 : Cond.code yX9_isDigit cX9_isDigit 1 (some .boolean) ∈ zGW := List.mem_filter.mpr ⟨List.mem_of_getElem? (i := 1243) (by decide +kernel), by decide +kernel⟩
theorem mm_1244 : Cond.methodLink RX9 219 yX9_readsNumber ∈ zGW := List.mem_filter.mpr ⟨List.mem_of_getElem? (i := 1244) (by decide +kernel), by decide +kernel⟩
theorem mm_1246 : Cond.instanceMethod yX9_readsNumber ∈ zGW := List.mem_filter.mpr ⟨List.mem_of_getElem? (i := 1246) (by decide +kernel), by decide +kernel⟩
theorem mm_1247 : Cond.code yX9_readsNumber cX9_readsNumber 2 (some .boolean) ∈ zGW := List.mem_filter.mpr ⟨List.mem_of_getElem? (i := 1247) (by decide +kernel), by decide +kernel⟩
theorem mm_1248 : Cond.methodLink RX9 212 yX9_notes ∈ zGW := List.mem_filter.mpr ⟨List.mem_of_getElem? (i := 1248) (by decide +kernel), by decide +kernel⟩
theorem mm_1250 : Cond.instanceMethod yX9_notes ∈ zGW := List.mem_filter.mpr ⟨List.mem_of_getElem? (i := 1250) (by decide +kernel), by decide +kernel⟩
theorem mm_1251 : Cond.code yX9_notes cX9_notes 3 none ∈ zGW := List.mem_filter.mpr ⟨List.mem_of_getElem? (i := 1251) (by decide +kernel), by decide +kernel⟩
theorem mm_1252 : Cond.methodLink RX9 222 yX9_factOf ∈ zGW := List.mem_filter.mpr ⟨List.mem_of_getElem? (i := 1252) (by decide +kernel), by decide +kernel⟩
theorem mm_1253 : Cond.static yX9_factOf ∈ zGW := List.mem_filter.mpr ⟨List.mem_of_getElem? (i := 1253) (by decide +kernel), by decide +kernel⟩
theorem mm_1254 : Cond.code yX9_factOf cX9_factOf 1 (some .int) ∈ zGW := List.mem_filter.mpr ⟨List.mem_of_getElem? (i := 1254) (by decide +kernel), by decide +kernel⟩
theorem mm_1255 : Cond.methodLink RX9 229 yX9_sumSign ∈ zGW := List.mem_filter.mpr ⟨List.mem_of_getElem? (i := 1255) (by decide +kernel), by decide +kernel⟩
theorem mm_1256 : Cond.static yX9_sumSign ∈ zGW := List.mem_filter.mpr ⟨List.mem_of_getElem? (i := 1256) (by decide +kernel), by decide +kernel⟩
theorem mm_1257 : Cond.code yX9_sumSign cX9_sumSign 1 (some .int) ∈ zGW := List.mem_filter.mpr ⟨List.mem_of_getElem? (i := 1257) (by decide +kernel), by decide +kernel⟩
theorem mm_1258 : Cond.methodLink RX9 232 yX9_closesSums ∈ zGW := List.mem_filter.mpr ⟨List.mem_of_getElem? (i := 1258) (by decide +kernel), by decide +kernel⟩
theorem mm_1260 : Cond.instanceMethod yX9_closesSums ∈ zGW := List.mem_filter.mpr ⟨List.mem_of_getElem? (i := 1260) (by decide +kernel), by decide +kernel⟩
theorem mm_1261 : Cond.code yX9_closesSums cX9_closesSums 2 none ∈ zGW := List.mem_filter.mpr ⟨List.mem_of_getElem? (i := 1261) (by decide +kernel), by decide +kernel⟩
theorem mm_1262 : Cond.methodLink RX9 209 yX9_top ∈ zGW := List.mem_filter.mpr ⟨List.mem_of_getElem? (i := 1262) (by decide +kernel), by decide +kernel⟩
theorem mm_1264 : Cond.instanceMethod yX9_top ∈ zGW := List.mem_filter.mpr ⟨List.mem_of_getElem? (i := 1264) (by decide +kernel), by decide +kernel⟩
theorem mm_1265 : Cond.code yX9_top cX9_top 1 (some .int) ∈ zGW := List.mem_filter.mpr ⟨List.mem_of_getElem? (i := 1265) (by decide +kernel), by decide +kernel⟩
theorem mm_1266 : Cond.methodLink RX9 236 yX9_hasOpenSum ∈ zGW := List.mem_filter.mpr ⟨List.mem_of_getElem? (i := 1266) (by decide +kernel), by decide +kernel⟩
theorem mm_1268 : Cond.instanceMethod yX9_hasOpenSum ∈ zGW := List.mem_filter.mpr ⟨List.mem_of_getElem? (i := 1268) (by decide +kernel), by decide +kernel⟩
theorem mm_1269 : Cond.code yX9_hasOpenSum cX9_hasOpenSum 3 (some .boolean) ∈ zGW := List.mem_filter.mpr ⟨List.mem_of_getElem? (i := 1269) (by decide +kernel), by decide +kernel⟩
theorem mm_1270 : Cond.methodLink RX9 242 yX9_endsPiece ∈ zGW := List.mem_filter.mpr ⟨List.mem_of_getElem? (i := 1270) (by decide +kernel), by decide +kernel⟩
theorem mm_1272 : Cond.instanceMethod yX9_endsPiece ∈ zGW := List.mem_filter.mpr ⟨List.mem_of_getElem? (i := 1272) (by decide +kernel), by decide +kernel⟩
theorem mm_1273 : Cond.code yX9_endsPiece cX9_endsPiece 1 none ∈ zGW := List.mem_filter.mpr ⟨List.mem_of_getElem? (i := 1273) (by decide +kernel), by decide +kernel⟩
theorem mm_1274 : Cond.methodLink RX9 252 yX9_closes ∈ zGW := List.mem_filter.mpr ⟨List.mem_of_getElem? (i := 1274) (by decide +kernel), by decide +kernel⟩
theorem mm_1276 : Cond.instanceMethod yX9_closes ∈ zGW := List.mem_filter.mpr ⟨List.mem_of_getElem? (i := 1276) (by decide +kernel), by decide +kernel⟩
theorem mm_1277 : Cond.code yX9_closes cX9_closes 1 (some .boolean) ∈ zGW := List.mem_filter.mpr ⟨List.mem_of_getElem? (i := 1277) (by decide +kernel), by decide +kernel⟩
theorem mm_1278 : Cond.methodLink RX9 245 yX9_lands ∈ zGW := List.mem_filter.mpr ⟨List.mem_of_getElem? (i := 1278) (by decide +kernel), by decide +kernel⟩
theorem mm_1280 : Cond.instanceMethod yX9_lands ∈ zGW := List.mem_filter.mpr ⟨List.mem_of_getElem? (i := 1280) (by decide +kernel), by decide +kernel⟩
theorem mm_1281 : Cond.code yX9_lands cX9_lands 3 none ∈ zGW := List.mem_filter.mpr ⟨List.mem_of_getElem? (i := 1281) (by decide +kernel), by decide +kernel⟩
theorem mm_1282 : Cond.methodLink RX9 255 yX9_jumps ∈ zGW := List.mem_filter.mpr ⟨List.mem_of_getElem? (i := 1282) (by decide +kernel), by decide +kernel⟩
theorem mm_1284 : Cond.instanceMethod yX9_jumps ∈ zGW := List.mem_filter.mpr ⟨List.mem_of_getElem? (i := 1284) (by decide +kernel), by decide +kernel⟩
theorem mm_1285 : Cond.code yX9_jumps cX9_jumps 2 none ∈ zGW := List.mem_filter.mpr ⟨List.mem_of_getElem? (i := 1285) (by decide +kernel), by decide +kernel⟩
theorem mm_1286 : Cond.methodLink RL 76 yX9_line ∈ zGW := List.mem_filter.mpr ⟨List.mem_of_getElem? (i := 1286) (by decide +kernel), by decide +kernel⟩
theorem mm_1287 : Cond.instanceMethod yX9_line ∈ zGW := List.mem_filter.mpr ⟨List.mem_of_getElem? (i := 1287) (by decide +kernel), by decide +kernel⟩
theorem mm_1288 : Cond.selects RX9 yX9_line yX9_line ∈ zGW := List.mem_filter.mpr ⟨List.mem_of_getElem? (i := 1288) (by decide +kernel), by decide +kernel⟩
theorem mm_1289 : Cond.code yX9_line cX9_line 4 (some .int) ∈ zGW := List.mem_filter.mpr ⟨List.mem_of_getElem? (i := 1289) (by decide +kernel), by decide +kernel⟩
theorem mm_1290 : Cond.methodLink RL 80 yX9_fits ∈ zGW := List.mem_filter.mpr ⟨List.mem_of_getElem? (i := 1290) (by decide +kernel), by decide +kernel⟩
theorem mm_1291 : Cond.instanceMethod yX9_fits ∈ zGW := List.mem_filter.mpr ⟨List.mem_of_getElem? (i := 1291) (by decide +kernel), by decide +kernel⟩
theorem mm_1292 : Cond.selects RX9 yX9_fits yX9_fits ∈ zGW := List.mem_filter.mpr ⟨List.mem_of_getElem? (i := 1292) (by decide +kernel), by decide +kernel⟩
theorem mm_1293 : Cond.code yX9_fits cX9_fits 4 (some .int) ∈ zGW := List.mem_filter.mpr ⟨List.mem_of_getElem? (i := 1293) (by decide +kernel), by decide +kernel⟩
theorem mm_1294 : Cond.methodLink RX9 282 yX9_isKnown ∈ zGW := List.mem_filter.mpr ⟨List.mem_of_getElem? (i := 1294) (by decide +kernel), by decide +kernel⟩
theorem mm_1295 : Cond.static yX9_isKnown ∈ zGW := List.mem_filter.mpr ⟨List.mem_of_getElem? (i := 1295) (by decide +kernel), by decide +kernel⟩
theorem mm_1296 : Cond.code yX9_isKnown cX9_isKnown 1 (some .boolean) ∈ zGW := List.mem_filter.mpr ⟨List.mem_of_getElem? (i := 1296) (by decide +kernel), by decide +kernel⟩
theorem mm_1297 : Cond.methodLink RX9 285 yX9_fitsOf ∈ zGW := List.mem_filter.mpr ⟨List.mem_of_getElem? (i := 1297) (by decide +kernel), by decide +kernel⟩
theorem mm_1299 : Cond.instanceMethod yX9_fitsOf ∈ zGW := List.mem_filter.mpr ⟨List.mem_of_getElem? (i := 1299) (by decide +kernel), by decide +kernel⟩
theorem mm_1300 : Cond.code yX9_fitsOf cX9_fitsOf 7 (some .int) ∈ zGW := List.mem_filter.mpr ⟨List.mem_of_getElem? (i := 1300) (by decide +kernel), by decide +kernel⟩
theorem mm_1301 : Cond.methodLink RX9 276 yX9_mayLead ∈ zGW := List.mem_filter.mpr ⟨List.mem_of_getElem? (i := 1301) (by decide +kernel), by decide +kernel⟩
theorem mm_1303 : Cond.instanceMethod yX9_mayLead ∈ zGW := List.mem_filter.mpr ⟨List.mem_of_getElem? (i := 1303) (by decide +kernel), by decide +kernel⟩
theorem mm_1304 : Cond.code yX9_mayLead cX9_mayLead 3 (some .boolean) ∈ zGW := List.mem_filter.mpr ⟨List.mem_of_getElem? (i := 1304) (by decide +kernel), by decide +kernel⟩
theorem mm_1305 : Cond.methodLink RX9 279 yX9_fitsAlone ∈ zGW := List.mem_filter.mpr ⟨List.mem_of_getElem? (i := 1305) (by decide +kernel), by decide +kernel⟩
theorem mm_1307 : Cond.instanceMethod yX9_fitsAlone ∈ zGW := List.mem_filter.mpr ⟨List.mem_of_getElem? (i := 1307) (by decide +kernel), by decide +kernel⟩
theorem mm_1308 : Cond.code yX9_fitsAlone cX9_fitsAlone 7 (some .int) ∈ zGW := List.mem_filter.mpr ⟨List.mem_of_getElem? (i := 1308) (by decide +kernel), by decide +kernel⟩
theorem mm_1309 : Cond.methodLink RX9 270 yX9_isAlone ∈ zGW := List.mem_filter.mpr ⟨List.mem_of_getElem? (i := 1309) (by decide +kernel), by decide +kernel⟩
theorem mm_1311 : Cond.instanceMethod yX9_isAlone ∈ zGW := List.mem_filter.mpr ⟨List.mem_of_getElem? (i := 1311) (by decide +kernel), by decide +kernel⟩
theorem mm_1312 : Cond.code yX9_isAlone cX9_isAlone 4 (some .boolean) ∈ zGW := List.mem_filter.mpr ⟨List.mem_of_getElem? (i := 1312) (by decide +kernel), by decide +kernel⟩
theorem mm_1313 : Cond.methodLink RX9 273 yX9_isSaidOf ∈ zGW := List.mem_filter.mpr ⟨List.mem_of_getElem? (i := 1313) (by decide +kernel), by decide +kernel⟩
theorem mm_1315 : Cond.instanceMethod yX9_isSaidOf ∈ zGW := List.mem_filter.mpr ⟨List.mem_of_getElem? (i := 1315) (by decide +kernel), by decide +kernel⟩
theorem mm_1316 : Cond.code yX9_isSaidOf cX9_isSaidOf 5 (some .boolean) ∈ zGW := List.mem_filter.mpr ⟨List.mem_of_getElem? (i := 1316) (by decide +kernel), by decide +kernel⟩
theorem mm_1317 : Cond.methodLink RX9 267 yX9_comesTo ∈ zGW := List.mem_filter.mpr ⟨List.mem_of_getElem? (i := 1317) (by decide +kernel), by decide +kernel⟩
theorem mm_1319 : Cond.instanceMethod yX9_comesTo ∈ zGW := List.mem_filter.mpr ⟨List.mem_of_getElem? (i := 1319) (by decide +kernel), by decide +kernel⟩
theorem mm_1320 : Cond.code yX9_comesTo cX9_comesTo 8 (some .int) ∈ zGW := List.mem_filter.mpr ⟨List.mem_of_getElem? (i := 1320) (by decide +kernel), by decide +kernel⟩
theorem mm_1321 : Cond.methodLink RX9 264 yX9_reckon ∈ zGW := List.mem_filter.mpr ⟨List.mem_of_getElem? (i := 1321) (by decide +kernel), by decide +kernel⟩
theorem mm_1322 : Cond.static yX9_reckon ∈ zGW := List.mem_filter.mpr ⟨List.mem_of_getElem? (i := 1322) (by decide +kernel), by decide +kernel⟩
theorem mm_1323 : Cond.code yX9_reckon cX9_reckon 3 (some .int) ∈ zGW := List.mem_filter.mpr ⟨List.mem_of_getElem? (i := 1323) (by decide +kernel), by decide +kernel⟩
theorem mm_1324 : Cond.methodLink RL 85 yX9_givings ∈ zGW := List.mem_filter.mpr ⟨List.mem_of_getElem? (i := 1324) (by decide +kernel), by decide +kernel⟩
theorem mm_1325 : Cond.instanceMethod yX9_givings ∈ zGW := List.mem_filter.mpr ⟨List.mem_of_getElem? (i := 1325) (by decide +kernel), by decide +kernel⟩
theorem mm_1326 : Cond.selects RX9 yX9_givings yX9_givings ∈ zGW := List.mem_filter.mpr ⟨List.mem_of_getElem? (i := 1326) (by decide +kernel), by decide +kernel⟩
theorem mm_1327 : Cond.code yX9_givings cX9_givings 3 (some .long) ∈ zGW := List.mem_filter.mpr ⟨List.mem_of_getElem? (i := 1327) (by decide +kernel), by decide +kernel⟩
theorem mm_1328 : Cond.constantLong RX9 297 (-1) ∈ zGW := List.mem_filter.mpr ⟨List.mem_of_getElem? (i := 1328) (by decide +kernel), by decide +kernel⟩
theorem mm_1329 : Cond.methodLink RX9 299 yX9_laysFitting ∈ zGW := List.mem_filter.mpr ⟨List.mem_of_getElem? (i := 1329) (by decide +kernel), by decide +kernel⟩
theorem mm_1331 : Cond.instanceMethod yX9_laysFitting ∈ zGW := List.mem_filter.mpr ⟨List.mem_of_getElem? (i := 1331) (by decide +kernel), by decide +kernel⟩
theorem mm_1332 : Cond.code yX9_laysFitting cX9_laysFitting 4 none ∈ zGW := List.mem_filter.mpr ⟨List.mem_of_getElem? (i := 1332) (by decide +kernel), by decide +kernel⟩
theorem mm_1333 : Cond.methodLink RX9 302 yX9_counts ∈ zGW := List.mem_filter.mpr ⟨List.mem_of_getElem? (i := 1333) (by decide +kernel), by decide +kernel⟩
theorem mm_1335 : Cond.instanceMethod yX9_counts ∈ zGW := List.mem_filter.mpr ⟨List.mem_of_getElem? (i := 1335) (by decide +kernel), by decide +kernel⟩
theorem mm_1336 : Cond.code yX9_counts cX9_counts 9 (some .long) ∈ zGW := List.mem_filter.mpr ⟨List.mem_of_getElem? (i := 1336) (by decide +kernel), by decide +kernel⟩
theorem mm_1337 : Cond.methodLink RX9 288 yX9_spreads ∈ zGW := List.mem_filter.mpr ⟨List.mem_of_getElem? (i := 1337) (by decide +kernel), by decide +kernel⟩
theorem mm_1339 : Cond.instanceMethod yX9_spreads ∈ zGW := List.mem_filter.mpr ⟨List.mem_of_getElem? (i := 1339) (by decide +kernel), by decide +kernel⟩
theorem mm_1340 : Cond.code yX9_spreads cX9_spreads 4 none ∈ zGW := List.mem_filter.mpr ⟨List.mem_of_getElem? (i := 1340) (by decide +kernel), by decide +kernel⟩
theorem mm_1341 : Cond.methodLink RL 90 yX9_odds ∈ zGW := List.mem_filter.mpr ⟨List.mem_of_getElem? (i := 1341) (by decide +kernel), by decide +kernel⟩
theorem mm_1342 : Cond.instanceMethod yX9_odds ∈ zGW := List.mem_filter.mpr ⟨List.mem_of_getElem? (i := 1342) (by decide +kernel), by decide +kernel⟩
theorem mm_1343 : Cond.selects RX9 yX9_odds yX9_odds ∈ zGW := List.mem_filter.mpr ⟨List.mem_of_getElem? (i := 1343) (by decide +kernel), by decide +kernel⟩
theorem mm_1344 : Cond.code yX9_odds cX9_odds 12 (some .long) ∈ zGW := List.mem_filter.mpr ⟨List.mem_of_getElem? (i := 1344) (by decide +kernel), by decide +kernel⟩
theorem mm_1345 : Cond.methodLink RX9 306 yX9_isAsked ∈ zGW := List.mem_filter.mpr ⟨List.mem_of_getElem? (i := 1345) (by decide +kernel), by decide +kernel⟩
theorem mm_1347 : Cond.instanceMethod yX9_isAsked ∈ zGW := List.mem_filter.mpr ⟨List.mem_of_getElem? (i := 1347) (by decide +kernel), by decide +kernel⟩
theorem mm_1348 : Cond.code yX9_isAsked cX9_isAsked 5 (some .boolean) ∈ zGW := List.mem_filter.mpr ⟨List.mem_of_getElem? (i := 1348) (by decide +kernel), by decide +kernel⟩
theorem mm_1349 : Cond.constantLong RX9 309 (-2) ∈ zGW := List.mem_filter.mpr ⟨List.mem_of_getElem? (i := 1349) (by decide +kernel), by decide +kernel⟩
theorem mm_1350 : Cond.methodLink RX9 311 yX9_gcd ∈ zGW := List.mem_filter.mpr ⟨List.mem_of_getElem? (i := 1350) (by decide +kernel), by decide +kernel⟩
theorem mm_1351 : Cond.static yX9_gcd ∈ zGW := List.mem_filter.mpr ⟨List.mem_of_getElem? (i := 1351) (by decide +kernel), by decide +kernel⟩
theorem mm_1352 : Cond.code yX9_gcd cX9_gcd 10 (some .long) ∈ zGW := List.mem_filter.mpr ⟨List.mem_of_getElem? (i := 1352) (by decide +kernel), by decide +kernel⟩
theorem mm_1353 : Cond.methodLink RL 94 yX9_mustBe ∈ zGW := List.mem_filter.mpr ⟨List.mem_of_getElem? (i := 1353) (by decide +kernel), by decide +kernel⟩
theorem mm_1354 : Cond.instanceMethod yX9_mustBe ∈ zGW := List.mem_filter.mpr ⟨List.mem_of_getElem? (i := 1354) (by decide +kernel), by decide +kernel⟩
theorem mm_1355 : Cond.selects RX9 yX9_mustBe yX9_mustBe ∈ zGW := List.mem_filter.mpr ⟨List.mem_of_getElem? (i := 1355) (by decide +kernel), by decide +kernel⟩
theorem mm_1356 : Cond.code yX9_mustBe cX9_mustBe 5 (some .int) ∈ zGW := List.mem_filter.mpr ⟨List.mem_of_getElem? (i := 1356) (by decide +kernel), by decide +kernel⟩
theorem mm_1357 : Cond.methodLink RX9 315 yX9_canAll ∈ zGW := List.mem_filter.mpr ⟨List.mem_of_getElem? (i := 1357) (by decide +kernel), by decide +kernel⟩
theorem mm_1359 : Cond.instanceMethod yX9_canAll ∈ zGW := List.mem_filter.mpr ⟨List.mem_of_getElem? (i := 1359) (by decide +kernel), by decide +kernel⟩
theorem mm_1360 : Cond.code yX9_canAll cX9_canAll 5 (some .boolean) ∈ zGW := List.mem_filter.mpr ⟨List.mem_of_getElem? (i := 1360) (by decide +kernel), by decide +kernel⟩
theorem mm_1361 : Cond.methodLink RX9 294 yX9_findsOne ∈ zGW := List.mem_filter.mpr ⟨List.mem_of_getElem? (i := 1361) (by decide +kernel), by decide +kernel⟩
theorem mm_1363 : Cond.instanceMethod yX9_findsOne ∈ zGW := List.mem_filter.mpr ⟨List.mem_of_getElem? (i := 1363) (by decide +kernel), by decide +kernel⟩
theorem mm_1364 : Cond.code yX9_findsOne cX9_findsOne 7 (some .boolean) ∈ zGW := List.mem_filter.mpr ⟨List.mem_of_getElem? (i := 1364) (by decide +kernel), by decide +kernel⟩
theorem mm_1365 : Cond.methodLink RX9 291 yX9_changesBack ∈ zGW := List.mem_filter.mpr ⟨List.mem_of_getElem? (i := 1365) (by decide +kernel), by decide +kernel⟩
theorem mm_1367 : Cond.instanceMethod yX9_changesBack ∈ zGW := List.mem_filter.mpr ⟨List.mem_of_getElem? (i := 1367) (by decide +kernel), by decide +kernel⟩
theorem mm_1368 : Cond.code yX9_changesBack cX9_changesBack 7 none ∈ zGW := List.mem_filter.mpr ⟨List.mem_of_getElem? (i := 1368) (by decide +kernel), by decide +kernel⟩
theorem mm_1369 : Cond.methodLink RX9 318 yX9_maybe ∈ zGW := List.mem_filter.mpr ⟨List.mem_of_getElem? (i := 1369) (by decide +kernel), by decide +kernel⟩
theorem mm_1371 : Cond.instanceMethod yX9_maybe ∈ zGW := List.mem_filter.mpr ⟨List.mem_of_getElem? (i := 1371) (by decide +kernel), by decide +kernel⟩
theorem mm_1372 : Cond.code yX9_maybe cX9_maybe 5 (some .int) ∈ zGW := List.mem_filter.mpr ⟨List.mem_of_getElem? (i := 1372) (by decide +kernel), by decide +kernel⟩
theorem mm_1373 : Cond.methodLink RX9 321 yX9_bits ∈ zGW := List.mem_filter.mpr ⟨List.mem_of_getElem? (i := 1373) (by decide +kernel), by decide +kernel⟩
theorem mm_1374 : Cond.static yX9_bits ∈ zGW := List.mem_filter.mpr ⟨List.mem_of_getElem? (i := 1374) (by decide +kernel), by decide +kernel⟩
theorem mm_1375 : Cond.code yX9_bits cX9_bits 3 (some .int) ∈ zGW := List.mem_filter.mpr ⟨List.mem_of_getElem? (i := 1375) (by decide +kernel), by decide +kernel⟩
theorem mm_1376 : Cond.methodLink RL 98 yX9_giving ∈ zGW := List.mem_filter.mpr ⟨List.mem_of_getElem? (i := 1376) (by decide +kernel), by decide +kernel⟩
theorem mm_1377 : Cond.instanceMethod yX9_giving ∈ zGW := List.mem_filter.mpr ⟨List.mem_of_getElem? (i := 1377) (by decide +kernel), by decide +kernel⟩
theorem mm_1378 : Cond.selects RX9 yX9_giving yX9_giving ∈ zGW := List.mem_filter.mpr ⟨List.mem_of_getElem? (i := 1378) (by decide +kernel), by decide +kernel⟩
theorem mm_1379 : Cond.code yX9_giving cX9_giving 6 (some .int) ∈ zGW := List.mem_filter.mpr ⟨List.mem_of_getElem? (i := 1379) (by decide +kernel), by decide +kernel⟩
theorem mm_1380 : Cond.methodLink RL 102 yX9_tooFew ∈ zGW := List.mem_filter.mpr ⟨List.mem_of_getElem? (i := 1380) (by decide +kernel), by decide +kernel⟩
theorem mm_1381 : Cond.instanceMethod yX9_tooFew ∈ zGW := List.mem_filter.mpr ⟨List.mem_of_getElem? (i := 1381) (by decide +kernel), by decide +kernel⟩
theorem mm_1382 : Cond.selects RX9 yX9_tooFew yX9_tooFew ∈ zGW := List.mem_filter.mpr ⟨List.mem_of_getElem? (i := 1382) (by decide +kernel), by decide +kernel⟩
theorem mm_1383 : Cond.code yX9_tooFew cX9_tooFew 8 (some .int) ∈ zGW := List.mem_filter.mpr ⟨List.mem_of_getElem? (i := 1383) (by decide +kernel), by decide +kernel⟩
theorem mm_1384 : Cond.methodLink RL 106 yX9_steps ∈ zGW := List.mem_filter.mpr ⟨List.mem_of_getElem? (i := 1384) (by decide +kernel), by decide +kernel⟩
theorem mm_1385 : Cond.instanceMethod yX9_steps ∈ zGW := List.mem_filter.mpr ⟨List.mem_of_getElem? (i := 1385) (by decide +kernel), by decide +kernel⟩
theorem mm_1386 : Cond.selects RX9 yX9_steps yX9_steps ∈ zGW := List.mem_filter.mpr ⟨List.mem_of_getElem? (i := 1386) (by decide +kernel), by decide +kernel⟩
theorem mm_1387 : Cond.code yX9_steps cX9_steps 7 (some .int) ∈ zGW := List.mem_filter.mpr ⟨List.mem_of_getElem? (i := 1387) (by decide +kernel), by decide +kernel⟩
theorem mm_1388 : Cond.methodLink RX9 327 yX9_rounds ∈ zGW := List.mem_filter.mpr ⟨List.mem_of_getElem? (i := 1388) (by decide +kernel), by decide +kernel⟩
theorem mm_1390 : Cond.instanceMethod yX9_rounds ∈ zGW := List.mem_filter.mpr ⟨List.mem_of_getElem? (i := 1390) (by decide +kernel), by decide +kernel⟩
theorem mm_1391 : Cond.code yX9_rounds cX9_rounds 5 (some .boolean) ∈ zGW := List.mem_filter.mpr ⟨List.mem_of_getElem? (i := 1391) (by decide +kernel), by decide +kernel⟩
theorem mm_1392 : Cond.methodLink RX9 324 yX9_isFound ∈ zGW := List.mem_filter.mpr ⟨List.mem_of_getElem? (i := 1392) (by decide +kernel), by decide +kernel⟩
theorem mm_1394 : Cond.instanceMethod yX9_isFound ∈ zGW := List.mem_filter.mpr ⟨List.mem_of_getElem? (i := 1394) (by decide +kernel), by decide +kernel⟩
theorem mm_1395 : Cond.code yX9_isFound cX9_isFound 3 (some .boolean) ∈ zGW := List.mem_filter.mpr ⟨List.mem_of_getElem? (i := 1395) (by decide +kernel), by decide +kernel⟩
theorem mm_1396 : Cond.methodLink RX9 330 yX9_foundNow ∈ zGW := List.mem_filter.mpr ⟨List.mem_of_getElem? (i := 1396) (by decide +kernel), by decide +kernel⟩
theorem mm_1398 : Cond.instanceMethod yX9_foundNow ∈ zGW := List.mem_filter.mpr ⟨List.mem_of_getElem? (i := 1398) (by decide +kernel), by decide +kernel⟩
theorem mm_1399 : Cond.code yX9_foundNow cX9_foundNow 4 (some .int) ∈ zGW := List.mem_filter.mpr ⟨List.mem_of_getElem? (i := 1399) (by decide +kernel), by decide +kernel⟩
theorem mm_1400 : Cond.methodLink RL 110 yX9_safe ∈ zGW := List.mem_filter.mpr ⟨List.mem_of_getElem? (i := 1400) (by decide +kernel), by decide +kernel⟩
theorem mm_1401 : Cond.instanceMethod yX9_safe ∈ zGW := List.mem_filter.mpr ⟨List.mem_of_getElem? (i := 1401) (by decide +kernel), by decide +kernel⟩
theorem mm_1402 : Cond.selects RX9 yX9_safe yX9_safe ∈ zGW := List.mem_filter.mpr ⟨List.mem_of_getElem? (i := 1402) (by decide +kernel), by decide +kernel⟩
theorem mm_1403 : Cond.code yX9_safe cX9_safe 4 (some .int) ∈ zGW := List.mem_filter.mpr ⟨List.mem_of_getElem? (i := 1403) (by decide +kernel), by decide +kernel⟩
theorem mm_1404 : Cond.methodLink RX9 333 yX9_isMany ∈ zGW := List.mem_filter.mpr ⟨List.mem_of_getElem? (i := 1404) (by decide +kernel), by decide +kernel⟩
theorem mm_1405 : Cond.static yX9_isMany ∈ zGW := List.mem_filter.mpr ⟨List.mem_of_getElem? (i := 1405) (by decide +kernel), by decide +kernel⟩
theorem mm_1406 : Cond.code yX9_isMany cX9_isMany 1 (some .boolean) ∈ zGW := List.mem_filter.mpr ⟨List.mem_of_getElem? (i := 1406) (by decide +kernel), by decide +kernel⟩
theorem mm_1407 : Cond.methodLink RX9 336 yX9_safeOf ∈ zGW := List.mem_filter.mpr ⟨List.mem_of_getElem? (i := 1407) (by decide +kernel), by decide +kernel⟩
theorem mm_1409 : Cond.instanceMethod yX9_safeOf ∈ zGW := List.mem_filter.mpr ⟨List.mem_of_getElem? (i := 1409) (by decide +kernel), by decide +kernel⟩
theorem mm_1410 : Cond.code yX9_safeOf cX9_safeOf 7 (some .int) ∈ zGW := List.mem_filter.mpr ⟨List.mem_of_getElem? (i := 1410) (by decide +kernel), by decide +kernel⟩
theorem mm_1411 : Cond.methodLink RL 139 yX9_linesOf ∈ zGW := List.mem_filter.mpr ⟨List.mem_of_getElem? (i := 1411) (by decide +kernel), by decide +kernel⟩
theorem mm_1412 : Cond.instanceMethod yX9_linesOf ∈ zGW := List.mem_filter.mpr ⟨List.mem_of_getElem? (i := 1412) (by decide +kernel), by decide +kernel⟩
theorem mm_1413 : Cond.selects RX9 yX9_linesOf yX9_linesOf ∈ zGW := List.mem_filter.mpr ⟨List.mem_of_getElem? (i := 1413) (by decide +kernel), by decide +kernel⟩
theorem mm_1414 : Cond.code yX9_linesOf cX9_linesOf 6 (some .int) ∈ zGW := List.mem_filter.mpr ⟨List.mem_of_getElem? (i := 1414) (by decide +kernel), by decide +kernel⟩
theorem mm_1415 : Cond.methodLink RL 114 yX9_fewest ∈ zGW := List.mem_filter.mpr ⟨List.mem_of_getElem? (i := 1415) (by decide +kernel), by decide +kernel⟩
theorem mm_1416 : Cond.instanceMethod yX9_fewest ∈ zGW := List.mem_filter.mpr ⟨List.mem_of_getElem? (i := 1416) (by decide +kernel), by decide +kernel⟩
theorem mm_1417 : Cond.selects RX9 yX9_fewest yX9_fewest ∈ zGW := List.mem_filter.mpr ⟨List.mem_of_getElem? (i := 1417) (by decide +kernel), by decide +kernel⟩
theorem mm_1418 : Cond.code yX9_fewest cX9_fewest 7 (some .int) ∈ zGW := List.mem_filter.mpr ⟨List.mem_of_getElem? (i := 1418) (by decide +kernel), by decide +kernel⟩
theorem mm_1419 : Cond.methodLink RX9 342 yX9_areOfBook ∈ zGW := List.mem_filter.mpr ⟨List.mem_of_getElem? (i := 1419) (by decide +kernel), by decide +kernel⟩
theorem mm_1421 : Cond.instanceMethod yX9_areOfBook ∈ zGW := List.mem_filter.mpr ⟨List.mem_of_getElem? (i := 1421) (by decide +kernel), by decide +kernel⟩
theorem mm_1422 : Cond.code yX9_areOfBook cX9_areOfBook 4 (some .boolean) ∈ zGW := List.mem_filter.mpr ⟨List.mem_of_getElem? (i := 1422) (by decide +kernel), by decide +kernel⟩
theorem mm_1423 : Cond.methodLink RX9 345 yX9_isSure ∈ zGW := List.mem_filter.mpr ⟨List.mem_of_getElem? (i := 1423) (by decide +kernel), by decide +kernel⟩
theorem mm_1425 : Cond.instanceMethod yX9_isSure ∈ zGW := List.mem_filter.mpr ⟨List.mem_of_getElem? (i := 1425) (by decide +kernel), by decide +kernel⟩
theorem mm_1426 : Cond.code yX9_isSure cX9_isSure 5 (some .boolean) ∈ zGW := List.mem_filter.mpr ⟨List.mem_of_getElem? (i := 1426) (by decide +kernel), by decide +kernel⟩
theorem mm_1427 : Cond.methodLink RL 118 yX9_questions ∈ zGW := List.mem_filter.mpr ⟨List.mem_of_getElem? (i := 1427) (by decide +kernel), by decide +kernel⟩
theorem mm_1428 : Cond.instanceMethod yX9_questions ∈ zGW := List.mem_filter.mpr ⟨List.mem_of_getElem? (i := 1428) (by decide +kernel), by decide +kernel⟩
theorem mm_1429 : Cond.selects RX9 yX9_questions yX9_questions ∈ zGW := List.mem_filter.mpr ⟨List.mem_of_getElem? (i := 1429) (by decide +kernel), by decide +kernel⟩
theorem mm_1430 : Cond.code yX9_questions cX9_questions 8 (some .int) ∈ zGW := List.mem_filter.mpr ⟨List.mem_of_getElem? (i := 1430) (by decide +kernel), by decide +kernel⟩
theorem mm_1431 : Cond.methodLink RX9 355 yX9_laysParts ∈ zGW := List.mem_filter.mpr ⟨List.mem_of_getElem? (i := 1431) (by decide +kernel), by decide +kernel⟩
theorem mm_1433 : Cond.instanceMethod yX9_laysParts ∈ zGW := List.mem_filter.mpr ⟨List.mem_of_getElem? (i := 1433) (by decide +kernel), by decide +kernel⟩
theorem mm_1434 : Cond.code yX9_laysParts cX9_laysParts 4 none ∈ zGW := List.mem_filter.mpr ⟨List.mem_of_getElem? (i := 1434) (by decide +kernel), by decide +kernel⟩
theorem mm_1435 : Cond.methodLink RX9 358 yX9_laysEnough ∈ zGW := List.mem_filter.mpr ⟨List.mem_of_getElem? (i := 1435) (by decide +kernel), by decide +kernel⟩
theorem mm_1437 : Cond.instanceMethod yX9_laysEnough ∈ zGW := List.mem_filter.mpr ⟨List.mem_of_getElem? (i := 1437) (by decide +kernel), by decide +kernel⟩
theorem mm_1438 : Cond.code yX9_laysEnough cX9_laysEnough 4 none ∈ zGW := List.mem_filter.mpr ⟨List.mem_of_getElem? (i := 1438) (by decide +kernel), by decide +kernel⟩
theorem mm_1439 : Cond.constant RX9 351 (1000000000) ∈ zGW := List.mem_filter.mpr ⟨List.mem_of_getElem? (i := 1439) (by decide +kernel), by decide +kernel⟩
theorem mm_1440 : Cond.methodLink RX9 352 yX9_enoughBy ∈ zGW := List.mem_filter.mpr ⟨List.mem_of_getElem? (i := 1440) (by decide +kernel), by decide +kernel⟩
theorem mm_1442 : Cond.instanceMethod yX9_enoughBy ∈ zGW := List.mem_filter.mpr ⟨List.mem_of_getElem? (i := 1442) (by decide +kernel), by decide +kernel⟩
theorem mm_1443 : Cond.code yX9_enoughBy cX9_enoughBy 6 (some .int) ∈ zGW := List.mem_filter.mpr ⟨List.mem_of_getElem? (i := 1443) (by decide +kernel), by decide +kernel⟩
theorem mm_1444 : Cond.methodLink RL 122 yX9_blurring ∈ zGW := List.mem_filter.mpr ⟨List.mem_of_getElem? (i := 1444) (by decide +kernel), by decide +kernel⟩
theorem mm_1445 : Cond.instanceMethod yX9_blurring ∈ zGW := List.mem_filter.mpr ⟨List.mem_of_getElem? (i := 1445) (by decide +kernel), by decide +kernel⟩
theorem mm_1446 : Cond.selects RX9 yX9_blurring yX9_blurring ∈ zGW := List.mem_filter.mpr ⟨List.mem_of_getElem? (i := 1446) (by decide +kernel), by decide +kernel⟩
theorem mm_1447 : Cond.code yX9_blurring cX9_blurring 10 (some .int) ∈ zGW := List.mem_filter.mpr ⟨List.mem_of_getElem? (i := 1447) (by decide +kernel), by decide +kernel⟩
theorem mm_1448 : Cond.methodLink RX9 370 yX9_lossBy ∈ zGW := List.mem_filter.mpr ⟨List.mem_of_getElem? (i := 1448) (by decide +kernel), by decide +kernel⟩
theorem mm_1450 : Cond.instanceMethod yX9_lossBy ∈ zGW := List.mem_filter.mpr ⟨List.mem_of_getElem? (i := 1450) (by decide +kernel), by decide +kernel⟩
theorem mm_1451 : Cond.code yX9_lossBy cX9_lossBy 11 (some .int) ∈ zGW := List.mem_filter.mpr ⟨List.mem_of_getElem? (i := 1451) (by decide +kernel), by decide +kernel⟩
theorem mm_1452 : Cond.methodLink RX9 364 yX9_lossAt ∈ zGW := List.mem_filter.mpr ⟨List.mem_of_getElem? (i := 1452) (by decide +kernel), by decide +kernel⟩
theorem mm_1454 : Cond.instanceMethod yX9_lossAt ∈ zGW := List.mem_filter.mpr ⟨List.mem_of_getElem? (i := 1454) (by decide +kernel), by decide +kernel⟩
theorem mm_1455 : Cond.code yX9_lossAt cX9_lossAt 4 (some .int) ∈ zGW := List.mem_filter.mpr ⟨List.mem_of_getElem? (i := 1455) (by decide +kernel), by decide +kernel⟩
theorem mm_1456 : Cond.methodLink RX9 367 yX9_fitsBlurred ∈ zGW := List.mem_filter.mpr ⟨List.mem_of_getElem? (i := 1456) (by decide +kernel), by decide +kernel⟩
theorem mm_1458 : Cond.instanceMethod yX9_fitsBlurred ∈ zGW := List.mem_filter.mpr ⟨List.mem_of_getElem? (i := 1458) (by decide +kernel), by decide +kernel⟩
theorem mm_1459 : Cond.code yX9_fitsBlurred cX9_fitsBlurred 5 (some .int) ∈ zGW := List.mem_filter.mpr ⟨List.mem_of_getElem? (i := 1459) (by decide +kernel), by decide +kernel⟩
theorem mm_1460 : Cond.methodLink RL 126 yX9_bestSwap ∈ zGW := List.mem_filter.mpr ⟨List.mem_of_getElem? (i := 1460) (by decide +kernel), by decide +kernel⟩
theorem mm_1461 : Cond.instanceMethod yX9_bestSwap ∈ zGW := List.mem_filter.mpr ⟨List.mem_of_getElem? (i := 1461) (by decide +kernel), by decide +kernel⟩
theorem mm_1462 : Cond.selects RX9 yX9_bestSwap yX9_bestSwap ∈ zGW := List.mem_filter.mpr ⟨List.mem_of_getElem? (i := 1462) (by decide +kernel), by decide +kernel⟩
theorem mm_1463 : Cond.code yX9_bestSwap cX9_bestSwap 10 (some .int) ∈ zGW := List.mem_filter.mpr ⟨List.mem_of_getElem? (i := 1463) (by decide +kernel), by decide +kernel⟩
theorem mm_1464 : Cond.methodLink RL 130 yX9_together ∈ zGW := List.mem_filter.mpr ⟨List.mem_of_getElem? (i := 1464) (by decide +kernel), by decide +kernel⟩
theorem mm_1465 : Cond.instanceMethod yX9_together ∈ zGW := List.mem_filter.mpr ⟨List.mem_of_getElem? (i := 1465) (by decide +kernel), by decide +kernel⟩
theorem mm_1466 : Cond.selects RX9 yX9_together yX9_together ∈ zGW := List.mem_filter.mpr ⟨List.mem_of_getElem? (i := 1466) (by decide +kernel), by decide +kernel⟩
theorem mm_1467 : Cond.code yX9_together cX9_together 8 (some .int) ∈ zGW := List.mem_filter.mpr ⟨List.mem_of_getElem? (i := 1467) (by decide +kernel), by decide +kernel⟩
theorem mm_1468 : Cond.methodLink RX9 374 yX9_allLines ∈ zGW := List.mem_filter.mpr ⟨List.mem_of_getElem? (i := 1468) (by decide +kernel), by decide +kernel⟩
theorem mm_1470 : Cond.instanceMethod yX9_allLines ∈ zGW := List.mem_filter.mpr ⟨List.mem_of_getElem? (i := 1470) (by decide +kernel), by decide +kernel⟩
theorem mm_1471 : Cond.code yX9_allLines cX9_allLines 4 (some .int) ∈ zGW := List.mem_filter.mpr ⟨List.mem_of_getElem? (i := 1471) (by decide +kernel), by decide +kernel⟩
theorem mm_1472 : Cond.methodLink RL 135 yX9_loss ∈ zGW := List.mem_filter.mpr ⟨List.mem_of_getElem? (i := 1472) (by decide +kernel), by decide +kernel⟩
theorem mm_1473 : Cond.instanceMethod yX9_loss ∈ zGW := List.mem_filter.mpr ⟨List.mem_of_getElem? (i := 1473) (by decide +kernel), by decide +kernel⟩
theorem mm_1474 : Cond.selects RX9 yX9_loss yX9_loss ∈ zGW := List.mem_filter.mpr ⟨List.mem_of_getElem? (i := 1474) (by decide +kernel), by decide +kernel⟩
theorem mm_1475 : Cond.code yX9_loss cX9_loss 5 (some .int) ∈ zGW := List.mem_filter.mpr ⟨List.mem_of_getElem? (i := 1475) (by decide +kernel), by decide +kernel⟩
theorem mm_1476 : Cond.methodLink RL 143 yX9_check ∈ zGW := List.mem_filter.mpr ⟨List.mem_of_getElem? (i := 1476) (by decide +kernel), by decide +kernel⟩
theorem mm_1477 : Cond.instanceMethod yX9_check ∈ zGW := List.mem_filter.mpr ⟨List.mem_of_getElem? (i := 1477) (by decide +kernel), by decide +kernel⟩
theorem mm_1478 : Cond.selects RX9 yX9_check yX9_check ∈ zGW := List.mem_filter.mpr ⟨List.mem_of_getElem? (i := 1478) (by decide +kernel), by decide +kernel⟩
theorem mm_1479 : Cond.code yX9_check cX9_check 5 (some .int) ∈ zGW := List.mem_filter.mpr ⟨List.mem_of_getElem? (i := 1479) (by decide +kernel), by decide +kernel⟩
theorem mm_1480 : Cond.methodLink RX9 377 yX9_tapeNumber ∈ zGW := List.mem_filter.mpr ⟨List.mem_of_getElem? (i := 1480) (by decide +kernel), by decide +kernel⟩
theorem mm_1482 : Cond.instanceMethod yX9_tapeNumber ∈ zGW := List.mem_filter.mpr ⟨List.mem_of_getElem? (i := 1482) (by decide +kernel), by decide +kernel⟩
theorem mm_1483 : Cond.code yX9_tapeNumber cX9_tapeNumber 4 (some .int) ∈ zGW := List.mem_filter.mpr ⟨List.mem_of_getElem? (i := 1483) (by decide +kernel), by decide +kernel⟩
theorem mm_1484 : Cond.methodLink RL 147 yX9_count ∈ zGW := List.mem_filter.mpr ⟨List.mem_of_getElem? (i := 1484) (by decide +kernel), by decide +kernel⟩
theorem mm_1485 : Cond.instanceMethod yX9_count ∈ zGW := List.mem_filter.mpr ⟨List.mem_of_getElem? (i := 1485) (by decide +kernel), by decide +kernel⟩
theorem mm_1486 : Cond.selects RX9 yX9_count yX9_count ∈ zGW := List.mem_filter.mpr ⟨List.mem_of_getElem? (i := 1486) (by decide +kernel), by decide +kernel⟩
theorem mm_1487 : Cond.code yX9_count cX9_count 2 (some .int) ∈ zGW := List.mem_filter.mpr ⟨List.mem_of_getElem? (i := 1487) (by decide +kernel), by decide +kernel⟩
theorem mm_222 : Cond.laysFinal RX0 "TwoFit$Asking" "splits" "[I" ∈ zGW := List.mem_filter.mpr ⟨List.mem_of_getElem? (i := 222) (by decide +kernel), by decide +kernel⟩
theorem mm_224 : Cond.lays RX0 "TwoFit$Asking" "splitCount" "I" ∈ zGW := List.mem_filter.mpr ⟨List.mem_of_getElem? (i := 224) (by decide +kernel), by decide +kernel⟩
theorem mm_226 : Cond.laysFinal RX0 "TwoFit$Asking" "sizes" "[I" ∈ zGW := List.mem_filter.mpr ⟨List.mem_of_getElem? (i := 226) (by decide +kernel), by decide +kernel⟩
theorem mm_228 : Cond.lays RX0 "TwoFit$Asking" "bounds" "[I" ∈ zGW := List.mem_filter.mpr ⟨List.mem_of_getElem? (i := 228) (by decide +kernel), by decide +kernel⟩
theorem mm_230 : Cond.lays RX0 "TwoFit$Asking" "time" "I" ∈ zGW := List.mem_filter.mpr ⟨List.mem_of_getElem? (i := 230) (by decide +kernel), by decide +kernel⟩
theorem mm_251 : Cond.lays RX1 "TwoFit$Blurs" "least" "I" ∈ zGW := List.mem_filter.mpr ⟨List.mem_of_getElem? (i := 251) (by decide +kernel), by decide +kernel⟩
theorem mm_253 : Cond.lays RX1 "TwoFit$Blurs" "leastRow" "I" ∈ zGW := List.mem_filter.mpr ⟨List.mem_of_getElem? (i := 253) (by decide +kernel), by decide +kernel⟩
theorem mm_255 : Cond.lays RX1 "TwoFit$Blurs" "leastCut" "I" ∈ zGW := List.mem_filter.mpr ⟨List.mem_of_getElem? (i := 255) (by decide +kernel), by decide +kernel⟩
theorem mm_257 : Cond.laysFinal RX1 "TwoFit$Blurs" "who" "[[I" ∈ zGW := List.mem_filter.mpr ⟨List.mem_of_getElem? (i := 257) (by decide +kernel), by decide +kernel⟩
theorem mm_259 : Cond.laysFinal RX1 "TwoFit$Blurs" "losses" "[[I" ∈ zGW := List.mem_filter.mpr ⟨List.mem_of_getElem? (i := 259) (by decide +kernel), by decide +kernel⟩
theorem mm_261 : Cond.laysFinal RX1 "TwoFit$Blurs" "tops" "[I" ∈ zGW := List.mem_filter.mpr ⟨List.mem_of_getElem? (i := 261) (by decide +kernel), by decide +kernel⟩
theorem mm_263 : Cond.laysFinal RX1 "TwoFit$Blurs" "levels" "[I" ∈ zGW := List.mem_filter.mpr ⟨List.mem_of_getElem? (i := 263) (by decide +kernel), by decide +kernel⟩
theorem mm_349 : Cond.lays RX2 "TwoFit$Book" "lines" "I" ∈ zGW := List.mem_filter.mpr ⟨List.mem_of_getElem? (i := 349) (by decide +kernel), by decide +kernel⟩
theorem mm_351 : Cond.lays RX2 "TwoFit$Book" "live" "I" ∈ zGW := List.mem_filter.mpr ⟨List.mem_of_getElem? (i := 351) (by decide +kernel), by decide +kernel⟩
theorem mm_353 : Cond.lays RX2 "TwoFit$Book" "isShown" "Z" ∈ zGW := List.mem_filter.mpr ⟨List.mem_of_getElem? (i := 353) (by decide +kernel), by decide +kernel⟩
theorem mm_355 : Cond.laysFinal RX2 "TwoFit$Book" "owners" "[I" ∈ zGW := List.mem_filter.mpr ⟨List.mem_of_getElem? (i := 355) (by decide +kernel), by decide +kernel⟩
theorem mm_357 : Cond.laysFinal RX2 "TwoFit$Book" "nodes" "[[I" ∈ zGW := List.mem_filter.mpr ⟨List.mem_of_getElem? (i := 357) (by decide +kernel), by decide +kernel⟩
theorem mm_322 : Cond.lays RX3 "TwoFit$Column" "weighs" "I" ∈ zGW := List.mem_filter.mpr ⟨List.mem_of_getElem? (i := 322) (by decide +kernel), by decide +kernel⟩
theorem mm_324 : Cond.laysFinal RX3 "TwoFit$Column" "above" "[I" ∈ zGW := List.mem_filter.mpr ⟨List.mem_of_getElem? (i := 324) (by decide +kernel), by decide +kernel⟩
theorem mm_326 : Cond.laysFinal RX3 "TwoFit$Column" "sizes" "[I" ∈ zGW := List.mem_filter.mpr ⟨List.mem_of_getElem? (i := 326) (by decide +kernel), by decide +kernel⟩
theorem mm_328 : Cond.laysFinal RX3 "TwoFit$Column" "who" "[I" ∈ zGW := List.mem_filter.mpr ⟨List.mem_of_getElem? (i := 328) (by decide +kernel), by decide +kernel⟩
theorem mm_330 : Cond.laysFinal RX3 "TwoFit$Column" "values" "[I" ∈ zGW := List.mem_filter.mpr ⟨List.mem_of_getElem? (i := 330) (by decide +kernel), by decide +kernel⟩
theorem mm_332 : Cond.lays RX3 "TwoFit$Column" "settled" "I" ∈ zGW := List.mem_filter.mpr ⟨List.mem_of_getElem? (i := 332) (by decide +kernel), by decide +kernel⟩
theorem mm_287 : Cond.lays RX4 "TwoFit$Gossip" "isTold" "Z" ∈ zGW := List.mem_filter.mpr ⟨List.mem_of_getElem? (i := 287) (by decide +kernel), by decide +kernel⟩
theorem mm_289 : Cond.lays RX4 "TwoFit$Gossip" "ofBook" "I" ∈ zGW := List.mem_filter.mpr ⟨List.mem_of_getElem? (i := 289) (by decide +kernel), by decide +kernel⟩
theorem mm_291 : Cond.lays RX4 "TwoFit$Gossip" "holds" "I" ∈ zGW := List.mem_filter.mpr ⟨List.mem_of_getElem? (i := 291) (by decide +kernel), by decide +kernel⟩
theorem mm_293 : Cond.lays RX4 "TwoFit$Gossip" "fault" "I" ∈ zGW := List.mem_filter.mpr ⟨List.mem_of_getElem? (i := 293) (by decide +kernel), by decide +kernel⟩
theorem mm_295 : Cond.lays RX4 "TwoFit$Gossip" "faultAt" "I" ∈ zGW := List.mem_filter.mpr ⟨List.mem_of_getElem? (i := 295) (by decide +kernel), by decide +kernel⟩
theorem mm_297 : Cond.lays RX4 "TwoFit$Gossip" "ofLine" "I" ∈ zGW := List.mem_filter.mpr ⟨List.mem_of_getElem? (i := 297) (by decide +kernel), by decide +kernel⟩
theorem mm_299 : Cond.laysFinal RX4 "TwoFit$Gossip" "letters" "[I" ∈ zGW := List.mem_filter.mpr ⟨List.mem_of_getElem? (i := 299) (by decide +kernel), by decide +kernel⟩
theorem mm_301 : Cond.laysFinal RX4 "TwoFit$Gossip" "text" "[I" ∈ zGW := List.mem_filter.mpr ⟨List.mem_of_getElem? (i := 301) (by decide +kernel), by decide +kernel⟩
theorem mm_303 : Cond.lays RX4 "TwoFit$Gossip" "length" "I" ∈ zGW := List.mem_filter.mpr ⟨List.mem_of_getElem? (i := 303) (by decide +kernel), by decide +kernel⟩
theorem mm_305 : Cond.lays RX4 "TwoFit$Gossip" "at" "I" ∈ zGW := List.mem_filter.mpr ⟨List.mem_of_getElem? (i := 305) (by decide +kernel), by decide +kernel⟩
theorem mm_307 : Cond.lays RX4 "TwoFit$Gossip" "refused" "Z" ∈ zGW := List.mem_filter.mpr ⟨List.mem_of_getElem? (i := 307) (by decide +kernel), by decide +kernel⟩
theorem mm_157 : Cond.lays RX5 "TwoFit$Links" "number" "I" ∈ zGW := List.mem_filter.mpr ⟨List.mem_of_getElem? (i := 157) (by decide +kernel), by decide +kernel⟩
theorem mm_159 : Cond.laysFinal RX5 "TwoFit$Links" "from" "[I" ∈ zGW := List.mem_filter.mpr ⟨List.mem_of_getElem? (i := 159) (by decide +kernel), by decide +kernel⟩
theorem mm_161 : Cond.laysFinal RX5 "TwoFit$Links" "to" "[I" ∈ zGW := List.mem_filter.mpr ⟨List.mem_of_getElem? (i := 161) (by decide +kernel), by decide +kernel⟩
theorem mm_189 : Cond.lays RX6 "TwoFit$Matching" "lines" "I" ∈ zGW := List.mem_filter.mpr ⟨List.mem_of_getElem? (i := 189) (by decide +kernel), by decide +kernel⟩
theorem mm_191 : Cond.lays RX6 "TwoFit$Matching" "live" "I" ∈ zGW := List.mem_filter.mpr ⟨List.mem_of_getElem? (i := 191) (by decide +kernel), by decide +kernel⟩
theorem mm_193 : Cond.lays RX6 "TwoFit$Matching" "lacking" "I" ∈ zGW := List.mem_filter.mpr ⟨List.mem_of_getElem? (i := 193) (by decide +kernel), by decide +kernel⟩
theorem mm_195 : Cond.lays RX6 "TwoFit$Matching" "found" "I" ∈ zGW := List.mem_filter.mpr ⟨List.mem_of_getElem? (i := 195) (by decide +kernel), by decide +kernel⟩
theorem mm_197 : Cond.laysFinal RX6 "TwoFit$Matching" "laid" "[I" ∈ zGW := List.mem_filter.mpr ⟨List.mem_of_getElem? (i := 197) (by decide +kernel), by decide +kernel⟩
theorem mm_199 : Cond.laysFinal RX6 "TwoFit$Matching" "fit" "[I" ∈ zGW := List.mem_filter.mpr ⟨List.mem_of_getElem? (i := 199) (by decide +kernel), by decide +kernel⟩
theorem mm_201 : Cond.laysFinal RX6 "TwoFit$Matching" "may" "[I" ∈ zGW := List.mem_filter.mpr ⟨List.mem_of_getElem? (i := 201) (by decide +kernel), by decide +kernel⟩
theorem mm_203 : Cond.laysFinal RX6 "TwoFit$Matching" "joint" "[I" ∈ zGW := List.mem_filter.mpr ⟨List.mem_of_getElem? (i := 203) (by decide +kernel), by decide +kernel⟩
theorem mm_205 : Cond.laysFinal RX6 "TwoFit$Matching" "ways" "[J" ∈ zGW := List.mem_filter.mpr ⟨List.mem_of_getElem? (i := 205) (by decide +kernel), by decide +kernel⟩
theorem mm_207 : Cond.laysFinal RX6 "TwoFit$Matching" "left" "[I" ∈ zGW := List.mem_filter.mpr ⟨List.mem_of_getElem? (i := 207) (by decide +kernel), by decide +kernel⟩
theorem mm_139 : Cond.lays RX7 "TwoFit$Tape" "length" "I" ∈ zGW := List.mem_filter.mpr ⟨List.mem_of_getElem? (i := 139) (by decide +kernel), by decide +kernel⟩
theorem mm_141 : Cond.laysFinal RX7 "TwoFit$Tape" "bytes" "[I" ∈ zGW := List.mem_filter.mpr ⟨List.mem_of_getElem? (i := 141) (by decide +kernel), by decide +kernel⟩
theorem mm_373 : Cond.laysFinal RX8 "TwoFit" "columns" "[LTwoFit$Column;" ∈ zGW := List.mem_filter.mpr ⟨List.mem_of_getElem? (i := 373) (by decide +kernel), by decide +kernel⟩
theorem mm_375 : Cond.laysFinal RX8 "TwoFit" "wishes" "[I" ∈ zGW := List.mem_filter.mpr ⟨List.mem_of_getElem? (i := 375) (by decide +kernel), by decide +kernel⟩
theorem mm_377 : Cond.laysFinal RX8 "TwoFit" "tape" "LTwoFit$Tape;" ∈ zGW := List.mem_filter.mpr ⟨List.mem_of_getElem? (i := 377) (by decide +kernel), by decide +kernel⟩
theorem mm_379 : Cond.laysFinal RX8 "TwoFit" "books" "[LTwoFit$Book;" ∈ zGW := List.mem_filter.mpr ⟨List.mem_of_getElem? (i := 379) (by decide +kernel), by decide +kernel⟩
theorem mm_381 : Cond.laysFinal RX8 "TwoFit" "links" "LTwoFit$Links;" ∈ zGW := List.mem_filter.mpr ⟨List.mem_of_getElem? (i := 381) (by decide +kernel), by decide +kernel⟩
theorem mm_383 : Cond.laysFinal RX8 "TwoFit" "gossips" "[LTwoFit$Gossip;" ∈ zGW := List.mem_filter.mpr ⟨List.mem_of_getElem? (i := 383) (by decide +kernel), by decide +kernel⟩
theorem mm_385 : Cond.laysFinal RX8 "TwoFit" "matching" "LTwoFit$Matching;" ∈ zGW := List.mem_filter.mpr ⟨List.mem_of_getElem? (i := 385) (by decide +kernel), by decide +kernel⟩
theorem mm_387 : Cond.laysFinal RX8 "TwoFit" "asking" "LTwoFit$Asking;" ∈ zGW := List.mem_filter.mpr ⟨List.mem_of_getElem? (i := 387) (by decide +kernel), by decide +kernel⟩
theorem mm_389 : Cond.laysFinal RX8 "TwoFit" "blurs" "LTwoFit$Blurs;" ∈ zGW := List.mem_filter.mpr ⟨List.mem_of_getElem? (i := 389) (by decide +kernel), by decide +kernel⟩
theorem mm_391 : Cond.laysFinal RX8 "TwoFit" "letters" "[I" ∈ zGW := List.mem_filter.mpr ⟨List.mem_of_getElem? (i := 391) (by decide +kernel), by decide +kernel⟩
theorem mm_393 : Cond.lays RX8 "TwoFit" "draft" "LTwoFit$Gossip;" ∈ zGW := List.mem_filter.mpr ⟨List.mem_of_getElem? (i := 393) (by decide +kernel), by decide +kernel⟩
theorem mm_395 : Cond.lays RX8 "TwoFit" "people" "I" ∈ zGW := List.mem_filter.mpr ⟨List.mem_of_getElem? (i := 395) (by decide +kernel), by decide +kernel⟩
theorem mm_397 : Cond.lays RX8 "TwoFit" "bookCount" "I" ∈ zGW := List.mem_filter.mpr ⟨List.mem_of_getElem? (i := 397) (by decide +kernel), by decide +kernel⟩
theorem mm_1005 : Cond.lays RX9 "TwoFitModel" "people" "I" ∈ zGW := List.mem_filter.mpr ⟨List.mem_of_getElem? (i := 1005) (by decide +kernel), by decide +kernel⟩
theorem mm_1007 : Cond.laysFinal RX9 "TwoFitModel" "upperOf" "[I" ∈ zGW := List.mem_filter.mpr ⟨List.mem_of_getElem? (i := 1007) (by decide +kernel), by decide +kernel⟩
theorem mm_1009 : Cond.laysFinal RX9 "TwoFitModel" "weightOf" "[I" ∈ zGW := List.mem_filter.mpr ⟨List.mem_of_getElem? (i := 1009) (by decide +kernel), by decide +kernel⟩
theorem mm_1011 : Cond.laysFinal RX9 "TwoFitModel" "valueOf" "[I" ∈ zGW := List.mem_filter.mpr ⟨List.mem_of_getElem? (i := 1011) (by decide +kernel), by decide +kernel⟩
theorem mm_1013 : Cond.laysFinal RX9 "TwoFitModel" "wishOf" "[I" ∈ zGW := List.mem_filter.mpr ⟨List.mem_of_getElem? (i := 1013) (by decide +kernel), by decide +kernel⟩
theorem mm_1015 : Cond.lays RX9 "TwoFitModel" "books" "I" ∈ zGW := List.mem_filter.mpr ⟨List.mem_of_getElem? (i := 1015) (by decide +kernel), by decide +kernel⟩
theorem mm_1017 : Cond.lays RX9 "TwoFitModel" "links" "I" ∈ zGW := List.mem_filter.mpr ⟨List.mem_of_getElem? (i := 1017) (by decide +kernel), by decide +kernel⟩
theorem mm_1019 : Cond.lays RX9 "TwoFitModel" "gossips" "I" ∈ zGW := List.mem_filter.mpr ⟨List.mem_of_getElem? (i := 1019) (by decide +kernel), by decide +kernel⟩
theorem mm_1021 : Cond.lays RX9 "TwoFitModel" "shownSet" "I" ∈ zGW := List.mem_filter.mpr ⟨List.mem_of_getElem? (i := 1021) (by decide +kernel), by decide +kernel⟩
theorem mm_1023 : Cond.laysFinal RX9 "TwoFitModel" "lineMany" "[I" ∈ zGW := List.mem_filter.mpr ⟨List.mem_of_getElem? (i := 1023) (by decide +kernel), by decide +kernel⟩
theorem mm_1025 : Cond.laysFinal RX9 "TwoFitModel" "ownerOf" "[I" ∈ zGW := List.mem_filter.mpr ⟨List.mem_of_getElem? (i := 1025) (by decide +kernel), by decide +kernel⟩
theorem mm_1027 : Cond.laysFinal RX9 "TwoFitModel" "showsOf" "[I" ∈ zGW := List.mem_filter.mpr ⟨List.mem_of_getElem? (i := 1027) (by decide +kernel), by decide +kernel⟩
theorem mm_1029 : Cond.laysFinal RX9 "TwoFitModel" "linkA" "[I" ∈ zGW := List.mem_filter.mpr ⟨List.mem_of_getElem? (i := 1029) (by decide +kernel), by decide +kernel⟩
theorem mm_1031 : Cond.laysFinal RX9 "TwoFitModel" "linkB" "[I" ∈ zGW := List.mem_filter.mpr ⟨List.mem_of_getElem? (i := 1031) (by decide +kernel), by decide +kernel⟩
theorem mm_1033 : Cond.laysFinal RX9 "TwoFitModel" "isCut" "[Z" ∈ zGW := List.mem_filter.mpr ⟨List.mem_of_getElem? (i := 1033) (by decide +kernel), by decide +kernel⟩
theorem mm_1035 : Cond.laysFinal RX9 "TwoFitModel" "tape" "[B" ∈ zGW := List.mem_filter.mpr ⟨List.mem_of_getElem? (i := 1035) (by decide +kernel), by decide +kernel⟩
theorem mm_1037 : Cond.lays RX9 "TwoFitModel" "taped" "I" ∈ zGW := List.mem_filter.mpr ⟨List.mem_of_getElem? (i := 1037) (by decide +kernel), by decide +kernel⟩
theorem mm_1039 : Cond.lays RX9 "TwoFitModel" "place0" "I" ∈ zGW := List.mem_filter.mpr ⟨List.mem_of_getElem? (i := 1039) (by decide +kernel), by decide +kernel⟩
theorem mm_1041 : Cond.lays RX9 "TwoFitModel" "length0" "I" ∈ zGW := List.mem_filter.mpr ⟨List.mem_of_getElem? (i := 1041) (by decide +kernel), by decide +kernel⟩
theorem mm_1043 : Cond.lays RX9 "TwoFitModel" "fault" "I" ∈ zGW := List.mem_filter.mpr ⟨List.mem_of_getElem? (i := 1043) (by decide +kernel), by decide +kernel⟩
theorem mm_1045 : Cond.lays RX9 "TwoFitModel" "open" "I" ∈ zGW := List.mem_filter.mpr ⟨List.mem_of_getElem? (i := 1045) (by decide +kernel), by decide +kernel⟩
theorem mm_1047 : Cond.lays RX9 "TwoFitModel" "codeMany" "I" ∈ zGW := List.mem_filter.mpr ⟨List.mem_of_getElem? (i := 1047) (by decide +kernel), by decide +kernel⟩
theorem mm_1049 : Cond.lays RX9 "TwoFitModel" "waiting" "I" ∈ zGW := List.mem_filter.mpr ⟨List.mem_of_getElem? (i := 1049) (by decide +kernel), by decide +kernel⟩
theorem mm_1051 : Cond.lays RX9 "TwoFitModel" "number0" "I" ∈ zGW := List.mem_filter.mpr ⟨List.mem_of_getElem? (i := 1051) (by decide +kernel), by decide +kernel⟩
theorem mm_1053 : Cond.laysFinal RX9 "TwoFitModel" "said" "[I" ∈ zGW := List.mem_filter.mpr ⟨List.mem_of_getElem? (i := 1053) (by decide +kernel), by decide +kernel⟩
theorem mm_1055 : Cond.laysFinal RX9 "TwoFitModel" "waits" "[I" ∈ zGW := List.mem_filter.mpr ⟨List.mem_of_getElem? (i := 1055) (by decide +kernel), by decide +kernel⟩
theorem mm_1057 : Cond.laysFinal RX9 "TwoFitModel" "codes" "[I" ∈ zGW := List.mem_filter.mpr ⟨List.mem_of_getElem? (i := 1057) (by decide +kernel), by decide +kernel⟩
theorem mm_1059 : Cond.laysFinal RX9 "TwoFitModel" "codeTo" "[I" ∈ zGW := List.mem_filter.mpr ⟨List.mem_of_getElem? (i := 1059) (by decide +kernel), by decide +kernel⟩
theorem mm_1061 : Cond.laysFinal RX9 "TwoFitModel" "gossipOf" "[I" ∈ zGW := List.mem_filter.mpr ⟨List.mem_of_getElem? (i := 1061) (by decide +kernel), by decide +kernel⟩
theorem mm_1063 : Cond.laysFinal RX9 "TwoFitModel" "stack" "[I" ∈ zGW := List.mem_filter.mpr ⟨List.mem_of_getElem? (i := 1063) (by decide +kernel), by decide +kernel⟩
theorem mm_1065 : Cond.laysFinal RX9 "TwoFitModel" "facts" "[I" ∈ zGW := List.mem_filter.mpr ⟨List.mem_of_getElem? (i := 1065) (by decide +kernel), by decide +kernel⟩
theorem mm_1067 : Cond.laysFinal RX9 "TwoFitModel" "isReached" "[Z" ∈ zGW := List.mem_filter.mpr ⟨List.mem_of_getElem? (i := 1067) (by decide +kernel), by decide +kernel⟩
theorem mm_1069 : Cond.laysFinal RX9 "TwoFitModel" "fitting" "[I" ∈ zGW := List.mem_filter.mpr ⟨List.mem_of_getElem? (i := 1069) (by decide +kernel), by decide +kernel⟩
theorem mm_1071 : Cond.laysFinal RX9 "TwoFitModel" "ways" "[J" ∈ zGW := List.mem_filter.mpr ⟨List.mem_of_getElem? (i := 1071) (by decide +kernel), by decide +kernel⟩
theorem mm_1073 : Cond.laysFinal RX9 "TwoFitModel" "ones" "[I" ∈ zGW := List.mem_filter.mpr ⟨List.mem_of_getElem? (i := 1073) (by decide +kernel), by decide +kernel⟩
theorem mm_1075 : Cond.laysFinal RX9 "TwoFitModel" "hasOf" "[I" ∈ zGW := List.mem_filter.mpr ⟨List.mem_of_getElem? (i := 1075) (by decide +kernel), by decide +kernel⟩
theorem mm_1077 : Cond.laysFinal RX9 "TwoFitModel" "givenTo" "[I" ∈ zGW := List.mem_filter.mpr ⟨List.mem_of_getElem? (i := 1077) (by decide +kernel), by decide +kernel⟩
theorem mm_1079 : Cond.laysFinal RX9 "TwoFitModel" "askedBy" "[I" ∈ zGW := List.mem_filter.mpr ⟨List.mem_of_getElem? (i := 1079) (by decide +kernel), by decide +kernel⟩
theorem mm_1081 : Cond.laysFinal RX9 "TwoFitModel" "waitingLine" "[I" ∈ zGW := List.mem_filter.mpr ⟨List.mem_of_getElem? (i := 1081) (by decide +kernel), by decide +kernel⟩
theorem mm_1083 : Cond.laysFinal RX9 "TwoFitModel" "before" "[I" ∈ zGW := List.mem_filter.mpr ⟨List.mem_of_getElem? (i := 1083) (by decide +kernel), by decide +kernel⟩
theorem mm_1085 : Cond.lays RX9 "TwoFitModel" "must0" "I" ∈ zGW := List.mem_filter.mpr ⟨List.mem_of_getElem? (i := 1085) (by decide +kernel), by decide +kernel⟩
theorem mm_1087 : Cond.lays RX9 "TwoFitModel" "suspects" "I" ∈ zGW := List.mem_filter.mpr ⟨List.mem_of_getElem? (i := 1087) (by decide +kernel), by decide +kernel⟩
theorem mm_1089 : Cond.laysFinal RX9 "TwoFitModel" "suspect" "[I" ∈ zGW := List.mem_filter.mpr ⟨List.mem_of_getElem? (i := 1089) (by decide +kernel), by decide +kernel⟩
theorem mm_1091 : Cond.laysFinal RX9 "TwoFitModel" "parts" "[I" ∈ zGW := List.mem_filter.mpr ⟨List.mem_of_getElem? (i := 1091) (by decide +kernel), by decide +kernel⟩
theorem mm_1093 : Cond.laysFinal RX9 "TwoFitModel" "enough" "[I" ∈ zGW := List.mem_filter.mpr ⟨List.mem_of_getElem? (i := 1093) (by decide +kernel), by decide +kernel⟩
theorem mm_1095 : Cond.laysFinal RX9 "TwoFitModel" "blurShows" "[I" ∈ zGW := List.mem_filter.mpr ⟨List.mem_of_getElem? (i := 1095) (by decide +kernel), by decide +kernel⟩
theorem mm_1097 : Cond.lays RX9 "TwoFitModel" "cuts0" "I" ∈ zGW := List.mem_filter.mpr ⟨List.mem_of_getElem? (i := 1097) (by decide +kernel), by decide +kernel⟩
set_option maxRecDepth 20000 in
theorem inG0 : ∀ w ∈ u_ws RX0 TX0 5, w ∈ zGW := List.forall_mem_cons.mpr ⟨mm_222, List.forall_mem_cons.mpr ⟨mm_224, List.forall_mem_cons.mpr ⟨mm_226, List.forall_mem_cons.mpr ⟨mm_228, List.forall_mem_cons.mpr ⟨mm_230, fun _ h => absurd h List.not_mem_nil⟩⟩⟩⟩⟩
set_option maxRecDepth 20000 in
theorem inG1 : ∀ w ∈ u_ws RX1 TX1 7, w ∈ zGW := List.forall_mem_cons.mpr ⟨mm_251, List.forall_mem_cons.mpr ⟨mm_253, List.forall_mem_cons.mpr ⟨mm_255, List.forall_mem_cons.mpr ⟨mm_257, List.forall_mem_cons.mpr ⟨mm_259, List.forall_mem_cons.mpr ⟨mm_261, List.forall_mem_cons.mpr ⟨mm_263, fun _ h => absurd h List.not_mem_nil⟩⟩⟩⟩⟩⟩⟩
set_option maxRecDepth 20000 in
theorem inG2 : ∀ w ∈ u_ws RX2 TX2 5, w ∈ zGW := List.forall_mem_cons.mpr ⟨mm_349, List.forall_mem_cons.mpr ⟨mm_351, List.forall_mem_cons.mpr ⟨mm_353, List.forall_mem_cons.mpr ⟨mm_355, List.forall_mem_cons.mpr ⟨mm_357, fun _ h => absurd h List.not_mem_nil⟩⟩⟩⟩⟩
set_option maxRecDepth 20000 in
theorem inG3 : ∀ w ∈ u_ws RX3 TX3 6, w ∈ zGW := List.forall_mem_cons.mpr ⟨mm_322, List.forall_mem_cons.mpr ⟨mm_324, List.forall_mem_cons.mpr ⟨mm_326, List.forall_mem_cons.mpr ⟨mm_328, List.forall_mem_cons.mpr ⟨mm_330, List.forall_mem_cons.mpr ⟨mm_332, fun _ h => absurd h List.not_mem_nil⟩⟩⟩⟩⟩⟩
set_option maxRecDepth 20000 in
theorem inG4 : ∀ w ∈ u_ws RX4 TX4 11, w ∈ zGW := List.forall_mem_cons.mpr ⟨mm_287, List.forall_mem_cons.mpr ⟨mm_289, List.forall_mem_cons.mpr ⟨mm_291, List.forall_mem_cons.mpr ⟨mm_293, List.forall_mem_cons.mpr ⟨mm_295, List.forall_mem_cons.mpr ⟨mm_297, List.forall_mem_cons.mpr ⟨mm_299, List.forall_mem_cons.mpr ⟨mm_301, List.forall_mem_cons.mpr ⟨mm_303, List.forall_mem_cons.mpr ⟨mm_305, List.forall_mem_cons.mpr ⟨mm_307, fun _ h => absurd h List.not_mem_nil⟩⟩⟩⟩⟩⟩⟩⟩⟩⟩⟩
set_option maxRecDepth 20000 in
theorem inG5 : ∀ w ∈ u_ws RX5 TX5 3, w ∈ zGW := List.forall_mem_cons.mpr ⟨mm_157, List.forall_mem_cons.mpr ⟨mm_159, List.forall_mem_cons.mpr ⟨mm_161, fun _ h => absurd h List.not_mem_nil⟩⟩⟩
set_option maxRecDepth 20000 in
theorem inG6 : ∀ w ∈ u_ws RX6 TX6 10, w ∈ zGW := List.forall_mem_cons.mpr ⟨mm_189, List.forall_mem_cons.mpr ⟨mm_191, List.forall_mem_cons.mpr ⟨mm_193, List.forall_mem_cons.mpr ⟨mm_195, List.forall_mem_cons.mpr ⟨mm_197, List.forall_mem_cons.mpr ⟨mm_199, List.forall_mem_cons.mpr ⟨mm_201, List.forall_mem_cons.mpr ⟨mm_203, List.forall_mem_cons.mpr ⟨mm_205, List.forall_mem_cons.mpr ⟨mm_207, fun _ h => absurd h List.not_mem_nil⟩⟩⟩⟩⟩⟩⟩⟩⟩⟩
set_option maxRecDepth 20000 in
theorem inG7 : ∀ w ∈ u_ws RX7 TX7 2, w ∈ zGW := List.forall_mem_cons.mpr ⟨mm_139, List.forall_mem_cons.mpr ⟨mm_141, fun _ h => absurd h List.not_mem_nil⟩⟩
set_option maxRecDepth 20000 in
theorem inG8 : ∀ w ∈ u_ws RX8 TX8 13, w ∈ zGW := List.forall_mem_cons.mpr ⟨mm_373, List.forall_mem_cons.mpr ⟨mm_375, List.forall_mem_cons.mpr ⟨mm_377, List.forall_mem_cons.mpr ⟨mm_379, List.forall_mem_cons.mpr ⟨mm_381, List.forall_mem_cons.mpr ⟨mm_383, List.forall_mem_cons.mpr ⟨mm_385, List.forall_mem_cons.mpr ⟨mm_387, List.forall_mem_cons.mpr ⟨mm_389, List.forall_mem_cons.mpr ⟨mm_391, List.forall_mem_cons.mpr ⟨mm_393, List.forall_mem_cons.mpr ⟨mm_395, List.forall_mem_cons.mpr ⟨mm_397, fun _ h => absurd h List.not_mem_nil⟩⟩⟩⟩⟩⟩⟩⟩⟩⟩⟩⟩⟩
set_option maxRecDepth 20000 in
theorem inG9 : ∀ w ∈ u_ws RX9 TX9 47, w ∈ zGW := List.forall_mem_cons.mpr ⟨mm_1005, List.forall_mem_cons.mpr ⟨mm_1007, List.forall_mem_cons.mpr ⟨mm_1009, List.forall_mem_cons.mpr ⟨mm_1011, List.forall_mem_cons.mpr ⟨mm_1013, List.forall_mem_cons.mpr ⟨mm_1015, List.forall_mem_cons.mpr ⟨mm_1017, List.forall_mem_cons.mpr ⟨mm_1019, List.forall_mem_cons.mpr ⟨mm_1021, List.forall_mem_cons.mpr ⟨mm_1023, List.forall_mem_cons.mpr ⟨mm_1025, List.forall_mem_cons.mpr ⟨mm_1027, List.forall_mem_cons.mpr ⟨mm_1029, List.forall_mem_cons.mpr ⟨mm_1031, List.forall_mem_cons.mpr ⟨mm_1033, List.forall_mem_cons.mpr ⟨mm_1035, List.forall_mem_cons.mpr ⟨mm_1037, List.forall_mem_cons.mpr ⟨mm_1039, List.forall_mem_cons.mpr ⟨mm_1041, List.forall_mem_cons.mpr ⟨mm_1043, List.forall_mem_cons.mpr ⟨mm_1045, List.forall_mem_cons.mpr ⟨mm_1047, List.forall_mem_cons.mpr ⟨mm_1049, List.forall_mem_cons.mpr ⟨mm_1051, List.forall_mem_cons.mpr ⟨mm_1053, List.forall_mem_cons.mpr ⟨mm_1055, List.forall_mem_cons.mpr ⟨mm_1057, List.forall_mem_cons.mpr ⟨mm_1059, List.forall_mem_cons.mpr ⟨mm_1061, List.forall_mem_cons.mpr ⟨mm_1063, List.forall_mem_cons.mpr ⟨mm_1065, List.forall_mem_cons.mpr ⟨mm_1067, List.forall_mem_cons.mpr ⟨mm_1069, List.forall_mem_cons.mpr ⟨mm_1071, List.forall_mem_cons.mpr ⟨mm_1073, List.forall_mem_cons.mpr ⟨mm_1075, List.forall_mem_cons.mpr ⟨mm_1077, List.forall_mem_cons.mpr ⟨mm_1079, List.forall_mem_cons.mpr ⟨mm_1081, List.forall_mem_cons.mpr ⟨mm_1083, List.forall_mem_cons.mpr ⟨mm_1085, List.forall_mem_cons.mpr ⟨mm_1087, List.forall_mem_cons.mpr ⟨mm_1089, List.forall_mem_cons.mpr ⟨mm_1091, List.forall_mem_cons.mpr ⟨mm_1093, List.forall_mem_cons.mpr ⟨mm_1095, List.forall_mem_cons.mpr ⟨mm_1097, fun _ h => absurd h List.not_mem_nil⟩⟩⟩⟩⟩⟩⟩⟩⟩⟩⟩⟩⟩⟩⟩⟩⟩⟩⟩⟩⟩⟩⟩⟩⟩⟩⟩⟩⟩⟩⟩⟩⟩⟩⟩⟩⟩⟩⟩⟩⟩⟩⟩⟩⟩⟩⟩
