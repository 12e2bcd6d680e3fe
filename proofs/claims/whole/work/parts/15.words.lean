theorem q0 : Cond.selects RX0 yX0_setEnds yX0_setEnds ∈ gw_tbl := List.mem_filter.mpr ⟨List.mem_of_getElem? (i := 0) (by decide +kernel), rfl⟩
theorem q1 : Cond.selects RX1 yX1_leadOfRuns yX1_leadOfRuns ∈ gw_tbl := List.mem_filter.mpr ⟨List.mem_of_getElem? (i := 1) (by decide +kernel), rfl⟩
theorem q2 : Cond.selects RX1 yX1_leadOfCharge yX1_leadOfCharge ∈ gw_tbl := List.mem_filter.mpr ⟨List.mem_of_getElem? (i := 2) (by decide +kernel), rfl⟩
theorem q3 : Cond.selects RX1 yX1_leadOfWord yX1_leadOfWord ∈ gw_tbl := List.mem_filter.mpr ⟨List.mem_of_getElem? (i := 3) (by decide +kernel), rfl⟩
theorem q4 : Cond.selects RX1 yX1_firstBits yX1_firstBits ∈ gw_tbl := List.mem_filter.mpr ⟨List.mem_of_getElem? (i := 4) (by decide +kernel), rfl⟩
theorem q5 : Cond.selects RX0 yX0_setGood yX0_setGood ∈ gw_tbl := List.mem_filter.mpr ⟨List.mem_of_getElem? (i := 5) (by decide +kernel), rfl⟩
theorem q6 : Cond.selects RX0 yX0_arcsToGood yX0_arcsToGood ∈ gw_tbl := List.mem_filter.mpr ⟨List.mem_of_getElem? (i := 6) (by decide +kernel), rfl⟩
theorem q7 : Cond.selects RX0 yX0_setTags yX0_setTags ∈ gw_tbl := List.mem_filter.mpr ⟨List.mem_of_getElem? (i := 7) (by decide +kernel), rfl⟩
theorem q8 : Cond.selects RX0 yX0_lowestGood yX0_lowestGood ∈ gw_tbl := List.mem_filter.mpr ⟨List.mem_of_getElem? (i := 8) (by decide +kernel), rfl⟩
theorem q9 : Cond.selects RX0 yX0_narrowestWindow yX0_narrowestWindow ∈ gw_tbl := List.mem_filter.mpr ⟨List.mem_of_getElem? (i := 9) (by decide +kernel), rfl⟩
theorem q10 : Cond.selects RX0 yX0_isDoubtful yX0_isDoubtful ∈ gw_tbl := List.mem_filter.mpr ⟨List.mem_of_getElem? (i := 10) (by decide +kernel), rfl⟩
theorem q11 : Cond.selects RX0 yX0_goOnAlike yX0_goOnAlike ∈ gw_tbl := List.mem_filter.mpr ⟨List.mem_of_getElem? (i := 11) (by decide +kernel), rfl⟩
theorem q12 : Cond.selects RX0 yX0_lengthenMates yX0_lengthenMates ∈ gw_tbl := List.mem_filter.mpr ⟨List.mem_of_getElem? (i := 12) (by decide +kernel), rfl⟩
theorem q13 : Cond.selects RX5 yX5_isTokenStart yX5_isTokenStart ∈ gw_tbl := List.mem_filter.mpr ⟨List.mem_of_getElem? (i := 13) (by decide +kernel), rfl⟩
theorem q14 : Cond.selects RX5 yX5_letterAt yX5_letterAt ∈ gw_tbl := List.mem_filter.mpr ⟨List.mem_of_getElem? (i := 14) (by decide +kernel), rfl⟩
theorem q15 : Cond.selects RX5 yX5_isFigure yX5_isFigure ∈ gw_tbl := List.mem_filter.mpr ⟨List.mem_of_getElem? (i := 15) (by decide +kernel), rfl⟩
theorem q16 : Cond.selects RX5 yX5_takes yX5_takes ∈ gw_tbl := List.mem_filter.mpr ⟨List.mem_of_getElem? (i := 16) (by decide +kernel), rfl⟩
theorem q17 : Cond.selects RX5 yX5_takesSort yX5_takesSort ∈ gw_tbl := List.mem_filter.mpr ⟨List.mem_of_getElem? (i := 17) (by decide +kernel), rfl⟩
theorem q18 : Cond.selects RX5 yX5_figureAt yX5_figureAt ∈ gw_tbl := List.mem_filter.mpr ⟨List.mem_of_getElem? (i := 18) (by decide +kernel), rfl⟩
theorem q19 : Cond.selects RX5 yX5_tokenLength yX5_tokenLength ∈ gw_tbl := List.mem_filter.mpr ⟨List.mem_of_getElem? (i := 19) (by decide +kernel), rfl⟩
theorem q20 : Cond.selects RX5 yX5_bitsAt yX5_bitsAt ∈ gw_tbl := List.mem_filter.mpr ⟨List.mem_of_getElem? (i := 20) (by decide +kernel), rfl⟩
theorem q21 : Cond.selects RX5 yX5_takesRate yX5_takesRate ∈ gw_tbl := List.mem_filter.mpr ⟨List.mem_of_getElem? (i := 21) (by decide +kernel), rfl⟩
theorem q22 : Cond.selects RX6 yX6_remember yX6_remember ∈ gw_tbl := List.mem_filter.mpr ⟨List.mem_of_getElem? (i := 22) (by decide +kernel), rfl⟩
theorem q23 : Cond.selects RX6 yX6_become yX6_become ∈ gw_tbl := List.mem_filter.mpr ⟨List.mem_of_getElem? (i := 23) (by decide +kernel), rfl⟩
theorem q24 : Cond.selects RX6 yX6_isNoState yX6_isNoState ∈ gw_tbl := List.mem_filter.mpr ⟨List.mem_of_getElem? (i := 24) (by decide +kernel), rfl⟩
theorem q25 : Cond.selects RX6 yX6_isNoWord yX6_isNoWord ∈ gw_tbl := List.mem_filter.mpr ⟨List.mem_of_getElem? (i := 25) (by decide +kernel), rfl⟩
theorem q26 : Cond.selects RX4 yX4_setAll yX4_setAll ∈ gw_tbl := List.mem_filter.mpr ⟨List.mem_of_getElem? (i := 26) (by decide +kernel), rfl⟩
theorem q27 : Cond.selects RX4 yX4_lessen yX4_lessen ∈ gw_tbl := List.mem_filter.mpr ⟨List.mem_of_getElem? (i := 27) (by decide +kernel), rfl⟩
theorem q28 : Cond.selects RX4 yX4_sumOver yX4_sumOver ∈ gw_tbl := List.mem_filter.mpr ⟨List.mem_of_getElem? (i := 28) (by decide +kernel), rfl⟩
theorem q29 : Cond.selects RX4 yX4_total yX4_total ∈ gw_tbl := List.mem_filter.mpr ⟨List.mem_of_getElem? (i := 29) (by decide +kernel), rfl⟩
theorem q30 : Cond.selects RX4 yX4_lengthenRows yX4_lengthenRows ∈ gw_tbl := List.mem_filter.mpr ⟨List.mem_of_getElem? (i := 30) (by decide +kernel), rfl⟩
theorem q31 : Cond.selects RX6 yX6_readByStates yX6_readByStates ∈ gw_tbl := List.mem_filter.mpr ⟨List.mem_of_getElem? (i := 31) (by decide +kernel), rfl⟩
theorem q32 : Cond.selects RX6 yX6_readByWindow yX6_readByWindow ∈ gw_tbl := List.mem_filter.mpr ⟨List.mem_of_getElem? (i := 32) (by decide +kernel), rfl⟩
theorem q33 : Cond.selects RX6 yX6_origins yX6_origins ∈ gw_tbl := List.mem_filter.mpr ⟨List.mem_of_getElem? (i := 33) (by decide +kernel), rfl⟩
theorem q34 : Cond.selects RX6 yX6_endOfSeen yX6_endOfSeen ∈ gw_tbl := List.mem_filter.mpr ⟨List.mem_of_getElem? (i := 34) (by decide +kernel), rfl⟩
theorem q35 : Cond.selects RX6 yX6_presentStates yX6_presentStates ∈ gw_tbl := List.mem_filter.mpr ⟨List.mem_of_getElem? (i := 35) (by decide +kernel), rfl⟩
theorem q36 : Cond.selects RX0 yX0_withWord yX0_withWord ∈ gw_tbl := List.mem_filter.mpr ⟨List.mem_of_getElem? (i := 36) (by decide +kernel), rfl⟩
theorem q37 : Cond.selects RX7 yX7_begins yX7_begins ∈ gw_tbl := List.mem_filter.mpr ⟨List.mem_of_getElem? (i := 37) (by decide +kernel), rfl⟩
theorem q38 : Cond.selects RX7 yX7_finds yX7_finds ∈ gw_tbl := List.mem_filter.mpr ⟨List.mem_of_getElem? (i := 38) (by decide +kernel), rfl⟩
theorem q39 : Cond.selects RX7 yX7_layArcs yX7_layArcs ∈ gw_tbl := List.mem_filter.mpr ⟨List.mem_of_getElem? (i := 39) (by decide +kernel), rfl⟩
theorem q40 : Cond.selects RX7 yX7_states yX7_states ∈ gw_tbl := List.mem_filter.mpr ⟨List.mem_of_getElem? (i := 40) (by decide +kernel), rfl⟩
theorem q41 : Cond.selects RX7 yX7_words yX7_words ∈ gw_tbl := List.mem_filter.mpr ⟨List.mem_of_getElem? (i := 41) (by decide +kernel), rfl⟩
theorem q42 : Cond.selects RX7 yX7_stepOf yX7_stepOf ∈ gw_tbl := List.mem_filter.mpr ⟨List.mem_of_getElem? (i := 42) (by decide +kernel), rfl⟩
theorem q43 : Cond.selects RX7 yX7_border yX7_border ∈ gw_tbl := List.mem_filter.mpr ⟨List.mem_of_getElem? (i := 43) (by decide +kernel), rfl⟩
theorem q44 : Cond.selects RX7 yX7_banned yX7_banned ∈ gw_tbl := List.mem_filter.mpr ⟨List.mem_of_getElem? (i := 44) (by decide +kernel), rfl⟩
theorem q45 : Cond.selects RX7 yX7_goodArcs yX7_goodArcs ∈ gw_tbl := List.mem_filter.mpr ⟨List.mem_of_getElem? (i := 45) (by decide +kernel), rfl⟩
theorem q46 : Cond.selects RX7 yX7_lead yX7_lead ∈ gw_tbl := List.mem_filter.mpr ⟨List.mem_of_getElem? (i := 46) (by decide +kernel), rfl⟩
theorem q47 : Cond.selects RX7 yX7_takesAll yX7_takesAll ∈ gw_tbl := List.mem_filter.mpr ⟨List.mem_of_getElem? (i := 47) (by decide +kernel), rfl⟩
theorem q48 : Cond.selects RX7 yX7_takesBan yX7_takesBan ∈ gw_tbl := List.mem_filter.mpr ⟨List.mem_of_getElem? (i := 48) (by decide +kernel), rfl⟩
theorem q49 : Cond.selects RX7 yX7_takes yX7_takes ∈ gw_tbl := List.mem_filter.mpr ⟨List.mem_of_getElem? (i := 49) (by decide +kernel), rfl⟩
theorem q50 : Cond.selects RX7 yX7_here yX7_here ∈ gw_tbl := List.mem_filter.mpr ⟨List.mem_of_getElem? (i := 50) (by decide +kernel), rfl⟩
theorem q51 : Cond.selects RX7 yX7_takesNumber yX7_takesNumber ∈ gw_tbl := List.mem_filter.mpr ⟨List.mem_of_getElem? (i := 51) (by decide +kernel), rfl⟩
theorem q52 : Cond.selects RX7 yX7_isFigure yX7_isFigure ∈ gw_tbl := List.mem_filter.mpr ⟨List.mem_of_getElem? (i := 52) (by decide +kernel), rfl⟩
theorem q53 : Cond.selects RX7 yX7_takesBits yX7_takesBits ∈ gw_tbl := List.mem_filter.mpr ⟨List.mem_of_getElem? (i := 53) (by decide +kernel), rfl⟩
theorem q54 : Cond.selects RX7 yX7_keepPast yX7_keepPast ∈ gw_tbl := List.mem_filter.mpr ⟨List.mem_of_getElem? (i := 54) (by decide +kernel), rfl⟩
theorem q55 : Cond.selects RX7 yX7_wordFor yX7_wordFor ∈ gw_tbl := List.mem_filter.mpr ⟨List.mem_of_getElem? (i := 55) (by decide +kernel), rfl⟩
theorem q56 : Cond.selects RX7 yX7_tag yX7_tag ∈ gw_tbl := List.mem_filter.mpr ⟨List.mem_of_getElem? (i := 56) (by decide +kernel), rfl⟩
theorem q57 : Cond.selects RX7 yX7_isState yX7_isState ∈ gw_tbl := List.mem_filter.mpr ⟨List.mem_of_getElem? (i := 57) (by decide +kernel), rfl⟩
theorem q58 : Cond.selects RX7 yX7_weighs yX7_weighs ∈ gw_tbl := List.mem_filter.mpr ⟨List.mem_of_getElem? (i := 58) (by decide +kernel), rfl⟩
theorem q59 : Cond.selects RX7 yX7_start yX7_start ∈ gw_tbl := List.mem_filter.mpr ⟨List.mem_of_getElem? (i := 59) (by decide +kernel), rfl⟩
theorem q60 : Cond.selects RX7 yX7_byStates yX7_byStates ∈ gw_tbl := List.mem_filter.mpr ⟨List.mem_of_getElem? (i := 60) (by decide +kernel), rfl⟩
theorem q61 : Cond.selects RX7 yX7_byWindow yX7_byWindow ∈ gw_tbl := List.mem_filter.mpr ⟨List.mem_of_getElem? (i := 61) (by decide +kernel), rfl⟩
theorem q62 : Cond.selects RX7 yX7_window yX7_window ∈ gw_tbl := List.mem_filter.mpr ⟨List.mem_of_getElem? (i := 62) (by decide +kernel), rfl⟩
theorem q63 : Cond.selects RX7 yX7_layAlike yX7_layAlike ∈ gw_tbl := List.mem_filter.mpr ⟨List.mem_of_getElem? (i := 63) (by decide +kernel), rfl⟩
theorem q64 : Cond.selects RX7 yX7_goOn yX7_goOn ∈ gw_tbl := List.mem_filter.mpr ⟨List.mem_of_getElem? (i := 64) (by decide +kernel), rfl⟩
theorem q65 : Cond.selects RX7 yX7_isWide yX7_isWide ∈ gw_tbl := List.mem_filter.mpr ⟨List.mem_of_getElem? (i := 65) (by decide +kernel), rfl⟩
theorem q66 : Cond.selects RX7 yX7_statesBySeen yX7_statesBySeen ∈ gw_tbl := List.mem_filter.mpr ⟨List.mem_of_getElem? (i := 66) (by decide +kernel), rfl⟩
theorem q67 : Cond.selects RX7 yX7_otherBits yX7_otherBits ∈ gw_tbl := List.mem_filter.mpr ⟨List.mem_of_getElem? (i := 67) (by decide +kernel), rfl⟩
theorem q69 : Cond.initialized RX6 ∈ gw_tbl := List.mem_filter.mpr ⟨List.mem_of_getElem? (i := 69) (by decide +kernel), rfl⟩
theorem q70 : Cond.initialized RX5 ∈ gw_tbl := List.mem_filter.mpr ⟨List.mem_of_getElem? (i := 70) (by decide +kernel), rfl⟩
theorem q71 : Cond.initialized RX1 ∈ gw_tbl := List.mem_filter.mpr ⟨List.mem_of_getElem? (i := 71) (by decide +kernel), rfl⟩
theorem q72 : Cond.initialized RX2 ∈ gw_tbl := List.mem_filter.mpr ⟨List.mem_of_getElem? (i := 72) (by decide +kernel), rfl⟩
theorem q73 : Cond.initialized RX3 ∈ gw_tbl := List.mem_filter.mpr ⟨List.mem_of_getElem? (i := 73) (by decide +kernel), rfl⟩
theorem q74 : Cond.initialized RX0 ∈ gw_tbl := List.mem_filter.mpr ⟨List.mem_of_getElem? (i := 74) (by decide +kernel), rfl⟩
theorem q75 : Cond.initialized RX4 ∈ gw_tbl := List.mem_filter.mpr ⟨List.mem_of_getElem? (i := 75) (by decide +kernel), rfl⟩
theorem q76 : Cond.initialized "java/lang/Math" ∈ gw_tbl := List.mem_filter.mpr ⟨List.mem_of_getElem? (i := 76) (by decide +kernel), rfl⟩
theorem q77 : Cond.initialized "java/lang/System" ∈ gw_tbl := List.mem_filter.mpr ⟨List.mem_of_getElem? (i := 77) (by decide +kernel), rfl⟩
theorem q78 : Cond.initialized RX7 ∈ gw_tbl := List.mem_filter.mpr ⟨List.mem_of_getElem? (i := 78) (by decide +kernel), rfl⟩
theorem q79 : Cond.initialized RJ6 ∈ gw_tbl := List.mem_filter.mpr ⟨List.mem_of_getElem? (i := 79) (by decide +kernel), rfl⟩
theorem q80 : Cond.classLink RL 7 RX6 ∈ gw_tbl := List.mem_filter.mpr ⟨List.mem_of_getElem? (i := 80) (by decide +kernel), rfl⟩
theorem q81 : Cond.instantiable RX6 11 ∈ gw_tbl := List.mem_filter.mpr ⟨List.mem_of_getElem? (i := 81) (by decide +kernel), rfl⟩
theorem q82 : Cond.methodLink RL 9 yX6_init ∈ gw_tbl := List.mem_filter.mpr ⟨List.mem_of_getElem? (i := 82) (by decide +kernel), rfl⟩
theorem q83 : Cond.instanceMethod yX6_init ∈ gw_tbl := List.mem_filter.mpr ⟨List.mem_of_getElem? (i := 83) (by decide +kernel), rfl⟩
theorem q84 : Cond.code yX6_init cX6_init 2 none ∈ gw_tbl := List.mem_filter.mpr ⟨List.mem_of_getElem? (i := 84) (by decide +kernel), rfl⟩
theorem q85 : Cond.methodLink RX6 1 Lib.objectInit ∈ gw_tbl := List.mem_filter.mpr ⟨List.mem_of_getElem? (i := 85) (by decide +kernel), rfl⟩
theorem q86 : Cond.instanceMethod Lib.objectInit ∈ gw_tbl := List.mem_filter.mpr ⟨List.mem_of_getElem? (i := 86) (by decide +kernel), rfl⟩
theorem q87 : Cond.code Lib.objectInit ⟨#[0xb1]⟩ 1 none ∈ gw_tbl := List.mem_filter.mpr ⟨List.mem_of_getElem? (i := 87) (by decide +kernel), rfl⟩
theorem q88 : Cond.classLink RX6 7 RX5 ∈ gw_tbl := List.mem_filter.mpr ⟨List.mem_of_getElem? (i := 88) (by decide +kernel), rfl⟩
theorem q89 : Cond.instantiable RX5 5 ∈ gw_tbl := List.mem_filter.mpr ⟨List.mem_of_getElem? (i := 89) (by decide +kernel), rfl⟩
theorem q90 : Cond.methodLink RX6 9 yX5_init ∈ gw_tbl := List.mem_filter.mpr ⟨List.mem_of_getElem? (i := 90) (by decide +kernel), rfl⟩
theorem q91 : Cond.instanceMethod yX5_init ∈ gw_tbl := List.mem_filter.mpr ⟨List.mem_of_getElem? (i := 91) (by decide +kernel), rfl⟩
theorem q92 : Cond.code yX5_init cX5_init 1 none ∈ gw_tbl := List.mem_filter.mpr ⟨List.mem_of_getElem? (i := 92) (by decide +kernel), rfl⟩
theorem q93 : Cond.methodLink RX5 3 Lib.objectInit ∈ gw_tbl := List.mem_filter.mpr ⟨List.mem_of_getElem? (i := 93) (by decide +kernel), rfl⟩
theorem q94 : Cond.fieldLink RX5 9 "BannedRows$Text" "letters" "[I" ∈ gw_tbl := List.mem_filter.mpr ⟨List.mem_of_getElem? (i := 94) (by decide +kernel), rfl⟩
theorem q95 : Cond.fieldLink RX5 15 "BannedRows$Text" "size" "I" ∈ gw_tbl := List.mem_filter.mpr ⟨List.mem_of_getElem? (i := 95) (by decide +kernel), rfl⟩
theorem q96 : Cond.fieldLink RX6 80 "BannedRows$Text" "size" "I" ∈ gw_tbl := List.mem_filter.mpr ⟨List.mem_of_getElem? (i := 96) (by decide +kernel), rfl⟩
theorem q97 : Cond.fieldLink RX5 24 "BannedRows$Text" "awaited" "I" ∈ gw_tbl := List.mem_filter.mpr ⟨List.mem_of_getElem? (i := 97) (by decide +kernel), rfl⟩
theorem q98 : Cond.fieldLink RX5 27 "BannedRows$Text" "isPTold" "Z" ∈ gw_tbl := List.mem_filter.mpr ⟨List.mem_of_getElem? (i := 98) (by decide +kernel), rfl⟩
theorem q99 : Cond.fieldLink RX5 31 "BannedRows$Text" "isQTold" "Z" ∈ gw_tbl := List.mem_filter.mpr ⟨List.mem_of_getElem? (i := 99) (by decide +kernel), rfl⟩
theorem q111 : Cond.arrayClass .int ∈ gw_tbl := List.mem_filter.mpr ⟨List.mem_of_getElem? (i := 111) (by decide +kernel), rfl⟩
theorem q112 : Cond.classLink RX6 16 RX1 ∈ gw_tbl := List.mem_filter.mpr ⟨List.mem_of_getElem? (i := 112) (by decide +kernel), rfl⟩
theorem q113 : Cond.instantiable RX1 5 ∈ gw_tbl := List.mem_filter.mpr ⟨List.mem_of_getElem? (i := 113) (by decide +kernel), rfl⟩
theorem q114 : Cond.methodLink RX6 18 yX1_init ∈ gw_tbl := List.mem_filter.mpr ⟨List.mem_of_getElem? (i := 114) (by decide +kernel), rfl⟩
theorem q115 : Cond.instanceMethod yX1_init ∈ gw_tbl := List.mem_filter.mpr ⟨List.mem_of_getElem? (i := 115) (by decide +kernel), rfl⟩
theorem q116 : Cond.code yX1_init cX1_init 1 none ∈ gw_tbl := List.mem_filter.mpr ⟨List.mem_of_getElem? (i := 116) (by decide +kernel), rfl⟩
theorem q117 : Cond.methodLink RX1 3 Lib.objectInit ∈ gw_tbl := List.mem_filter.mpr ⟨List.mem_of_getElem? (i := 117) (by decide +kernel), rfl⟩
theorem q118 : Cond.methodLink RX1 9 yX1_setFirst ∈ gw_tbl := List.mem_filter.mpr ⟨List.mem_of_getElem? (i := 118) (by decide +kernel), rfl⟩
theorem q119 : Cond.instanceMethod yX1_setFirst ∈ gw_tbl := List.mem_filter.mpr ⟨List.mem_of_getElem? (i := 119) (by decide +kernel), rfl⟩
theorem q120 : Cond.selects RX1 yX1_setFirst yX1_setFirst ∈ gw_tbl := List.mem_filter.mpr ⟨List.mem_of_getElem? (i := 120) (by decide +kernel), rfl⟩
theorem q121 : Cond.code yX1_setFirst cX1_setFirst 1 none ∈ gw_tbl := List.mem_filter.mpr ⟨List.mem_of_getElem? (i := 121) (by decide +kernel), rfl⟩
theorem q122 : Cond.fieldLink RX1 14 "BannedRows$Ban" "sort" "I" ∈ gw_tbl := List.mem_filter.mpr ⟨List.mem_of_getElem? (i := 122) (by decide +kernel), rfl⟩
theorem q123 : Cond.fieldLink RX5 83 "BannedRows$Ban" "sort" "I" ∈ gw_tbl := List.mem_filter.mpr ⟨List.mem_of_getElem? (i := 123) (by decide +kernel), rfl⟩
theorem q124 : Cond.fieldLink RX1 18 "BannedRows$Ban" "low" "I" ∈ gw_tbl := List.mem_filter.mpr ⟨List.mem_of_getElem? (i := 124) (by decide +kernel), rfl⟩
theorem q125 : Cond.fieldLink RX5 56 "BannedRows$Ban" "low" "I" ∈ gw_tbl := List.mem_filter.mpr ⟨List.mem_of_getElem? (i := 125) (by decide +kernel), rfl⟩
theorem q126 : Cond.fieldLink RX1 21 "BannedRows$Ban" "high" "I" ∈ gw_tbl := List.mem_filter.mpr ⟨List.mem_of_getElem? (i := 126) (by decide +kernel), rfl⟩
theorem q127 : Cond.fieldLink RX5 65 "BannedRows$Ban" "high" "I" ∈ gw_tbl := List.mem_filter.mpr ⟨List.mem_of_getElem? (i := 127) (by decide +kernel), rfl⟩
theorem q128 : Cond.fieldLink RX1 24 "BannedRows$Ban" "p" "I" ∈ gw_tbl := List.mem_filter.mpr ⟨List.mem_of_getElem? (i := 128) (by decide +kernel), rfl⟩
theorem q129 : Cond.fieldLink RX5 74 "BannedRows$Ban" "p" "I" ∈ gw_tbl := List.mem_filter.mpr ⟨List.mem_of_getElem? (i := 129) (by decide +kernel), rfl⟩
theorem q130 : Cond.fieldLink RX6 156 "BannedRows$Ban" "p" "I" ∈ gw_tbl := List.mem_filter.mpr ⟨List.mem_of_getElem? (i := 130) (by decide +kernel), rfl⟩
theorem q131 : Cond.fieldLink RX1 27 "BannedRows$Ban" "q" "I" ∈ gw_tbl := List.mem_filter.mpr ⟨List.mem_of_getElem? (i := 131) (by decide +kernel), rfl⟩
theorem q132 : Cond.fieldLink RX6 123 "BannedRows$Ban" "q" "I" ∈ gw_tbl := List.mem_filter.mpr ⟨List.mem_of_getElem? (i := 132) (by decide +kernel), rfl⟩
theorem q133 : Cond.fieldLink RX5 77 "BannedRows$Ban" "q" "I" ∈ gw_tbl := List.mem_filter.mpr ⟨List.mem_of_getElem? (i := 133) (by decide +kernel), rfl⟩
theorem q134 : Cond.fieldLink RX0 96 "BannedRows$Ban" "q" "I" ∈ gw_tbl := List.mem_filter.mpr ⟨List.mem_of_getElem? (i := 134) (by decide +kernel), rfl⟩
theorem q146 : Cond.classLink RX6 23 RX2 ∈ gw_tbl := List.mem_filter.mpr ⟨List.mem_of_getElem? (i := 146) (by decide +kernel), rfl⟩
theorem q147 : Cond.instantiable RX2 2 ∈ gw_tbl := List.mem_filter.mpr ⟨List.mem_of_getElem? (i := 147) (by decide +kernel), rfl⟩
theorem q148 : Cond.methodLink RX6 25 yX2_init ∈ gw_tbl := List.mem_filter.mpr ⟨List.mem_of_getElem? (i := 148) (by decide +kernel), rfl⟩
theorem q149 : Cond.instanceMethod yX2_init ∈ gw_tbl := List.mem_filter.mpr ⟨List.mem_of_getElem? (i := 149) (by decide +kernel), rfl⟩
theorem q150 : Cond.code yX2_init cX2_init 1 none ∈ gw_tbl := List.mem_filter.mpr ⟨List.mem_of_getElem? (i := 150) (by decide +kernel), rfl⟩
theorem q151 : Cond.methodLink RX2 1 Lib.objectInit ∈ gw_tbl := List.mem_filter.mpr ⟨List.mem_of_getElem? (i := 151) (by decide +kernel), rfl⟩
theorem q152 : Cond.classLink RX2 7 RX1 ∈ gw_tbl := List.mem_filter.mpr ⟨List.mem_of_getElem? (i := 152) (by decide +kernel), rfl⟩
theorem q153 : Cond.methodLink RX2 9 yX1_init ∈ gw_tbl := List.mem_filter.mpr ⟨List.mem_of_getElem? (i := 153) (by decide +kernel), rfl⟩
theorem q154 : Cond.classLink RX2 16 RX3 ∈ gw_tbl := List.mem_filter.mpr ⟨List.mem_of_getElem? (i := 154) (by decide +kernel), rfl⟩
theorem q155 : Cond.instantiable RX3 5 ∈ gw_tbl := List.mem_filter.mpr ⟨List.mem_of_getElem? (i := 155) (by decide +kernel), rfl⟩
theorem q156 : Cond.methodLink RX2 18 yX3_init ∈ gw_tbl := List.mem_filter.mpr ⟨List.mem_of_getElem? (i := 156) (by decide +kernel), rfl⟩
theorem q157 : Cond.instanceMethod yX3_init ∈ gw_tbl := List.mem_filter.mpr ⟨List.mem_of_getElem? (i := 157) (by decide +kernel), rfl⟩
theorem q158 : Cond.code yX3_init cX3_init 1 none ∈ gw_tbl := List.mem_filter.mpr ⟨List.mem_of_getElem? (i := 158) (by decide +kernel), rfl⟩
theorem q159 : Cond.methodLink RX3 3 Lib.objectInit ∈ gw_tbl := List.mem_filter.mpr ⟨List.mem_of_getElem? (i := 159) (by decide +kernel), rfl⟩
theorem q160 : Cond.fieldLink RX3 9 "BannedRows$Line" "words" "[I" ∈ gw_tbl := List.mem_filter.mpr ⟨List.mem_of_getElem? (i := 160) (by decide +kernel), rfl⟩
theorem q161 : Cond.fieldLink RX6 216 "BannedRows$Line" "words" "[I" ∈ gw_tbl := List.mem_filter.mpr ⟨List.mem_of_getElem? (i := 161) (by decide +kernel), rfl⟩
theorem q162 : Cond.fieldLink RX3 15 "BannedRows$Line" "sentWords" "[I" ∈ gw_tbl := List.mem_filter.mpr ⟨List.mem_of_getElem? (i := 162) (by decide +kernel), rfl⟩
theorem q163 : Cond.fieldLink RX3 18 "BannedRows$Line" "sentTags" "[I" ∈ gw_tbl := List.mem_filter.mpr ⟨List.mem_of_getElem? (i := 163) (by decide +kernel), rfl⟩
theorem q164 : Cond.fieldLink RX3 21 "BannedRows$Line" "size" "I" ∈ gw_tbl := List.mem_filter.mpr ⟨List.mem_of_getElem? (i := 164) (by decide +kernel), rfl⟩
theorem q165 : Cond.fieldLink RX6 109 "BannedRows$Line" "size" "I" ∈ gw_tbl := List.mem_filter.mpr ⟨List.mem_of_getElem? (i := 165) (by decide +kernel), rfl⟩
theorem q166 : Cond.fieldLink RX3 25 "BannedRows$Line" "send" "I" ∈ gw_tbl := List.mem_filter.mpr ⟨List.mem_of_getElem? (i := 166) (by decide +kernel), rfl⟩
theorem q167 : Cond.fieldLink RX6 110 "BannedRows$Line" "send" "I" ∈ gw_tbl := List.mem_filter.mpr ⟨List.mem_of_getElem? (i := 167) (by decide +kernel), rfl⟩
theorem q179 : Cond.fieldLink RX2 10 "BannedRows$Held" "ban" "LBannedRows$Ban;" ∈ gw_tbl := List.mem_filter.mpr ⟨List.mem_of_getElem? (i := 179) (by decide +kernel), rfl⟩
theorem q180 : Cond.fieldLink RX6 59 "BannedRows$Held" "ban" "LBannedRows$Ban;" ∈ gw_tbl := List.mem_filter.mpr ⟨List.mem_of_getElem? (i := 180) (by decide +kernel), rfl⟩
theorem q181 : Cond.fieldLink RX2 19 "BannedRows$Held" "line" "LBannedRows$Line;" ∈ gw_tbl := List.mem_filter.mpr ⟨List.mem_of_getElem? (i := 181) (by decide +kernel), rfl⟩
theorem q182 : Cond.fieldLink RX6 66 "BannedRows$Held" "line" "LBannedRows$Line;" ∈ gw_tbl := List.mem_filter.mpr ⟨List.mem_of_getElem? (i := 182) (by decide +kernel), rfl⟩
theorem q188 : Cond.classLink RX6 30 RX0 ∈ gw_tbl := List.mem_filter.mpr ⟨List.mem_of_getElem? (i := 188) (by decide +kernel), rfl⟩
theorem q189 : Cond.instantiable RX0 8 ∈ gw_tbl := List.mem_filter.mpr ⟨List.mem_of_getElem? (i := 189) (by decide +kernel), rfl⟩
theorem q190 : Cond.methodLink RX6 32 yX0_init ∈ gw_tbl := List.mem_filter.mpr ⟨List.mem_of_getElem? (i := 190) (by decide +kernel), rfl⟩
theorem q191 : Cond.instanceMethod yX0_init ∈ gw_tbl := List.mem_filter.mpr ⟨List.mem_of_getElem? (i := 191) (by decide +kernel), rfl⟩
theorem q192 : Cond.code yX0_init cX0_init 1 none ∈ gw_tbl := List.mem_filter.mpr ⟨List.mem_of_getElem? (i := 192) (by decide +kernel), rfl⟩
theorem q193 : Cond.methodLink RX0 3 Lib.objectInit ∈ gw_tbl := List.mem_filter.mpr ⟨List.mem_of_getElem? (i := 193) (by decide +kernel), rfl⟩
theorem q194 : Cond.fieldLink RX0 36 "BannedRows$Arcs" "states" "I" ∈ gw_tbl := List.mem_filter.mpr ⟨List.mem_of_getElem? (i := 194) (by decide +kernel), rfl⟩
theorem q195 : Cond.fieldLink RX4 35 "BannedRows$Arcs" "states" "I" ∈ gw_tbl := List.mem_filter.mpr ⟨List.mem_of_getElem? (i := 195) (by decide +kernel), rfl⟩
theorem q196 : Cond.fieldLink RX6 99 "BannedRows$Arcs" "states" "I" ∈ gw_tbl := List.mem_filter.mpr ⟨List.mem_of_getElem? (i := 196) (by decide +kernel), rfl⟩
theorem q197 : Cond.fieldLink RX0 66 "BannedRows$Arcs" "good" "I" ∈ gw_tbl := List.mem_filter.mpr ⟨List.mem_of_getElem? (i := 197) (by decide +kernel), rfl⟩
theorem q198 : Cond.fieldLink RX6 106 "BannedRows$Arcs" "good" "I" ∈ gw_tbl := List.mem_filter.mpr ⟨List.mem_of_getElem? (i := 198) (by decide +kernel), rfl⟩
theorem q199 : Cond.fieldLink RX6 70 "BannedRows$Arcs" "begin" "I" ∈ gw_tbl := List.mem_filter.mpr ⟨List.mem_of_getElem? (i := 199) (by decide +kernel), rfl⟩
theorem q200 : Cond.fieldLink RX0 57 "BannedRows$Arcs" "begin" "I" ∈ gw_tbl := List.mem_filter.mpr ⟨List.mem_of_getElem? (i := 200) (by decide +kernel), rfl⟩
theorem q201 : Cond.fieldLink RX0 63 "BannedRows$Arcs" "window" "I" ∈ gw_tbl := List.mem_filter.mpr ⟨List.mem_of_getElem? (i := 201) (by decide +kernel), rfl⟩
theorem q202 : Cond.fieldLink RX6 207 "BannedRows$Arcs" "window" "I" ∈ gw_tbl := List.mem_filter.mpr ⟨List.mem_of_getElem? (i := 202) (by decide +kernel), rfl⟩
theorem q203 : Cond.fieldLink RX0 9 "BannedRows$Arcs" "ends" "[I" ∈ gw_tbl := List.mem_filter.mpr ⟨List.mem_of_getElem? (i := 203) (by decide +kernel), rfl⟩
theorem q204 : Cond.fieldLink RX0 15 "BannedRows$Arcs" "tags" "[I" ∈ gw_tbl := List.mem_filter.mpr ⟨List.mem_of_getElem? (i := 204) (by decide +kernel), rfl⟩
theorem q205 : Cond.fieldLink RX0 18 "BannedRows$Arcs" "mates" "[I" ∈ gw_tbl := List.mem_filter.mpr ⟨List.mem_of_getElem? (i := 205) (by decide +kernel), rfl⟩
theorem q206 : Cond.fieldLink RX0 21 "BannedRows$Arcs" "nextMates" "[I" ∈ gw_tbl := List.mem_filter.mpr ⟨List.mem_of_getElem? (i := 206) (by decide +kernel), rfl⟩
theorem q224 : Cond.classLink RX6 37 RX4 ∈ gw_tbl := List.mem_filter.mpr ⟨List.mem_of_getElem? (i := 224) (by decide +kernel), rfl⟩
theorem q225 : Cond.instantiable RX4 2 ∈ gw_tbl := List.mem_filter.mpr ⟨List.mem_of_getElem? (i := 225) (by decide +kernel), rfl⟩
theorem q226 : Cond.methodLink RX6 39 yX4_init ∈ gw_tbl := List.mem_filter.mpr ⟨List.mem_of_getElem? (i := 226) (by decide +kernel), rfl⟩
theorem q227 : Cond.instanceMethod yX4_init ∈ gw_tbl := List.mem_filter.mpr ⟨List.mem_of_getElem? (i := 227) (by decide +kernel), rfl⟩
theorem q228 : Cond.code yX4_init cX4_init 1 none ∈ gw_tbl := List.mem_filter.mpr ⟨List.mem_of_getElem? (i := 228) (by decide +kernel), rfl⟩
theorem q229 : Cond.methodLink RX4 3 Lib.objectInit ∈ gw_tbl := List.mem_filter.mpr ⟨List.mem_of_getElem? (i := 229) (by decide +kernel), rfl⟩
theorem q230 : Cond.fieldLink RX4 9 "BannedRows$Sums" "values" "[I" ∈ gw_tbl := List.mem_filter.mpr ⟨List.mem_of_getElem? (i := 230) (by decide +kernel), rfl⟩
theorem q231 : Cond.fieldLink RX4 15 "BannedRows$Sums" "next" "[I" ∈ gw_tbl := List.mem_filter.mpr ⟨List.mem_of_getElem? (i := 231) (by decide +kernel), rfl⟩
theorem q238 : Cond.methodLink RX6 62 yX0_build ∈ gw_tbl := List.mem_filter.mpr ⟨List.mem_of_getElem? (i := 238) (by decide +kernel), rfl⟩
theorem q239 : Cond.instanceMethod yX0_build ∈ gw_tbl := List.mem_filter.mpr ⟨List.mem_of_getElem? (i := 239) (by decide +kernel), rfl⟩
theorem q240 : Cond.selects RX0 yX0_build yX0_build ∈ gw_tbl := List.mem_filter.mpr ⟨List.mem_of_getElem? (i := 240) (by decide +kernel), rfl⟩
theorem q241 : Cond.code yX0_build cX0_build 2 none ∈ gw_tbl := List.mem_filter.mpr ⟨List.mem_of_getElem? (i := 241) (by decide +kernel), rfl⟩
theorem q242 : Cond.methodLink RX0 24 yX1_stateCount ∈ gw_tbl := List.mem_filter.mpr ⟨List.mem_of_getElem? (i := 242) (by decide +kernel), rfl⟩
theorem q243 : Cond.instanceMethod yX1_stateCount ∈ gw_tbl := List.mem_filter.mpr ⟨List.mem_of_getElem? (i := 243) (by decide +kernel), rfl⟩
theorem q244 : Cond.selects RX1 yX1_stateCount yX1_stateCount ∈ gw_tbl := List.mem_filter.mpr ⟨List.mem_of_getElem? (i := 244) (by decide +kernel), rfl⟩
theorem q245 : Cond.code yX1_stateCount cX1_stateCount 1 (some .int) ∈ gw_tbl := List.mem_filter.mpr ⟨List.mem_of_getElem? (i := 245) (by decide +kernel), rfl⟩
theorem q246 : Cond.methodLink RX0 30 Lib.Math.min.name ∈ gw_tbl := List.mem_filter.mpr ⟨List.mem_of_getElem? (i := 246) (by decide +kernel), rfl⟩
theorem q247 : Cond.static Lib.Math.min.name ∈ gw_tbl := List.mem_filter.mpr ⟨List.mem_of_getElem? (i := 247) (by decide +kernel), rfl⟩
theorem q248 : Cond.code Lib.Math.min.name Lib.Math.min.code 2 (some .int) ∈ gw_tbl := List.mem_filter.mpr ⟨List.mem_of_getElem? (i := 248) (by decide +kernel), rfl⟩
theorem q249 : Cond.methodLink RX0 40 yX0_setEnds ∈ gw_tbl := List.mem_filter.mpr ⟨List.mem_of_getElem? (i := 249) (by decide +kernel), rfl⟩
theorem q251 : Cond.instanceMethod yX0_setEnds ∈ gw_tbl := List.mem_filter.mpr ⟨List.mem_of_getElem? (i := 251) (by decide +kernel), rfl⟩
theorem q252 : Cond.code yX0_setEnds cX0_setEnds 5 none ∈ gw_tbl := List.mem_filter.mpr ⟨List.mem_of_getElem? (i := 252) (by decide +kernel), rfl⟩
theorem q253 : Cond.methodLink RX0 89 yX1_wordCount ∈ gw_tbl := List.mem_filter.mpr ⟨List.mem_of_getElem? (i := 253) (by decide +kernel), rfl⟩
theorem q254 : Cond.instanceMethod yX1_wordCount ∈ gw_tbl := List.mem_filter.mpr ⟨List.mem_of_getElem? (i := 254) (by decide +kernel), rfl⟩
theorem q255 : Cond.selects RX1 yX1_wordCount yX1_wordCount ∈ gw_tbl := List.mem_filter.mpr ⟨List.mem_of_getElem? (i := 255) (by decide +kernel), rfl⟩
theorem q256 : Cond.code yX1_wordCount cX1_wordCount 1 (some .int) ∈ gw_tbl := List.mem_filter.mpr ⟨List.mem_of_getElem? (i := 256) (by decide +kernel), rfl⟩
theorem q257 : Cond.methodLink RX0 92 yX0_leadOver ∈ gw_tbl := List.mem_filter.mpr ⟨List.mem_of_getElem? (i := 257) (by decide +kernel), rfl⟩
theorem q258 : Cond.static yX0_leadOver ∈ gw_tbl := List.mem_filter.mpr ⟨List.mem_of_getElem? (i := 258) (by decide +kernel), rfl⟩
theorem q259 : Cond.code yX0_leadOver cX0_leadOver 5 (some .int) ∈ gw_tbl := List.mem_filter.mpr ⟨List.mem_of_getElem? (i := 259) (by decide +kernel), rfl⟩
theorem q260 : Cond.methodLink RX0 99 yX1_lead ∈ gw_tbl := List.mem_filter.mpr ⟨List.mem_of_getElem? (i := 260) (by decide +kernel), rfl⟩
theorem q261 : Cond.instanceMethod yX1_lead ∈ gw_tbl := List.mem_filter.mpr ⟨List.mem_of_getElem? (i := 261) (by decide +kernel), rfl⟩
theorem q262 : Cond.selects RX1 yX1_lead yX1_lead ∈ gw_tbl := List.mem_filter.mpr ⟨List.mem_of_getElem? (i := 262) (by decide +kernel), rfl⟩
theorem q263 : Cond.code yX1_lead cX1_lead 3 (some .int) ∈ gw_tbl := List.mem_filter.mpr ⟨List.mem_of_getElem? (i := 263) (by decide +kernel), rfl⟩
theorem q264 : Cond.methodLink RX1 30 yX1_leadOfRuns ∈ gw_tbl := List.mem_filter.mpr ⟨List.mem_of_getElem? (i := 264) (by decide +kernel), rfl⟩
theorem q266 : Cond.instanceMethod yX1_leadOfRuns ∈ gw_tbl := List.mem_filter.mpr ⟨List.mem_of_getElem? (i := 266) (by decide +kernel), rfl⟩
theorem q267 : Cond.code yX1_leadOfRuns cX1_leadOfRuns 3 (some .int) ∈ gw_tbl := List.mem_filter.mpr ⟨List.mem_of_getElem? (i := 267) (by decide +kernel), rfl⟩
theorem q268 : Cond.methodLink RX1 34 yX1_leadOfCharge ∈ gw_tbl := List.mem_filter.mpr ⟨List.mem_of_getElem? (i := 268) (by decide +kernel), rfl⟩
theorem q270 : Cond.instanceMethod yX1_leadOfCharge ∈ gw_tbl := List.mem_filter.mpr ⟨List.mem_of_getElem? (i := 270) (by decide +kernel), rfl⟩
theorem q271 : Cond.code yX1_leadOfCharge cX1_leadOfCharge 4 (some .int) ∈ gw_tbl := List.mem_filter.mpr ⟨List.mem_of_getElem? (i := 271) (by decide +kernel), rfl⟩
theorem q272 : Cond.methodLink RX1 37 yX1_leadOfWord ∈ gw_tbl := List.mem_filter.mpr ⟨List.mem_of_getElem? (i := 272) (by decide +kernel), rfl⟩
theorem q274 : Cond.instanceMethod yX1_leadOfWord ∈ gw_tbl := List.mem_filter.mpr ⟨List.mem_of_getElem? (i := 274) (by decide +kernel), rfl⟩
theorem q275 : Cond.code yX1_leadOfWord cX1_leadOfWord 6 (some .int) ∈ gw_tbl := List.mem_filter.mpr ⟨List.mem_of_getElem? (i := 275) (by decide +kernel), rfl⟩
theorem q276 : Cond.methodLink RX1 40 yX1_firstBits ∈ gw_tbl := List.mem_filter.mpr ⟨List.mem_of_getElem? (i := 276) (by decide +kernel), rfl⟩
theorem q278 : Cond.instanceMethod yX1_firstBits ∈ gw_tbl := List.mem_filter.mpr ⟨List.mem_of_getElem? (i := 278) (by decide +kernel), rfl⟩
theorem q279 : Cond.code yX1_firstBits cX1_firstBits 2 (some .int) ∈ gw_tbl := List.mem_filter.mpr ⟨List.mem_of_getElem? (i := 279) (by decide +kernel), rfl⟩
theorem q280 : Cond.methodLink RX0 44 yX1_tagCount ∈ gw_tbl := List.mem_filter.mpr ⟨List.mem_of_getElem? (i := 280) (by decide +kernel), rfl⟩
theorem q281 : Cond.instanceMethod yX1_tagCount ∈ gw_tbl := List.mem_filter.mpr ⟨List.mem_of_getElem? (i := 281) (by decide +kernel), rfl⟩
theorem q282 : Cond.selects RX1 yX1_tagCount yX1_tagCount ∈ gw_tbl := List.mem_filter.mpr ⟨List.mem_of_getElem? (i := 282) (by decide +kernel), rfl⟩
theorem q283 : Cond.code yX1_tagCount cX1_tagCount 1 (some .int) ∈ gw_tbl := List.mem_filter.mpr ⟨List.mem_of_getElem? (i := 283) (by decide +kernel), rfl⟩
theorem q284 : Cond.methodLink RX0 47 yX0_setGood ∈ gw_tbl := List.mem_filter.mpr ⟨List.mem_of_getElem? (i := 284) (by decide +kernel), rfl⟩
theorem q286 : Cond.instanceMethod yX0_setGood ∈ gw_tbl := List.mem_filter.mpr ⟨List.mem_of_getElem? (i := 286) (by decide +kernel), rfl⟩
theorem q287 : Cond.code yX0_setGood cX0_setGood 5 none ∈ gw_tbl := List.mem_filter.mpr ⟨List.mem_of_getElem? (i := 287) (by decide +kernel), rfl⟩
theorem q288 : Cond.methodLink RX0 69 yX0_has ∈ gw_tbl := List.mem_filter.mpr ⟨List.mem_of_getElem? (i := 288) (by decide +kernel), rfl⟩
theorem q289 : Cond.static yX0_has ∈ gw_tbl := List.mem_filter.mpr ⟨List.mem_of_getElem? (i := 289) (by decide +kernel), rfl⟩
theorem q290 : Cond.code yX0_has cX0_has 2 (some .boolean) ∈ gw_tbl := List.mem_filter.mpr ⟨List.mem_of_getElem? (i := 290) (by decide +kernel), rfl⟩
theorem q291 : Cond.methodLink RX0 102 yX0_arcsToGood ∈ gw_tbl := List.mem_filter.mpr ⟨List.mem_of_getElem? (i := 291) (by decide +kernel), rfl⟩
theorem q293 : Cond.instanceMethod yX0_arcsToGood ∈ gw_tbl := List.mem_filter.mpr ⟨List.mem_of_getElem? (i := 293) (by decide +kernel), rfl⟩
theorem q294 : Cond.code yX0_arcsToGood cX0_arcsToGood 4 (some .int) ∈ gw_tbl := List.mem_filter.mpr ⟨List.mem_of_getElem? (i := 294) (by decide +kernel), rfl⟩
theorem q295 : Cond.methodLink RX0 73 yX0_endOf ∈ gw_tbl := List.mem_filter.mpr ⟨List.mem_of_getElem? (i := 295) (by decide +kernel), rfl⟩
theorem q296 : Cond.instanceMethod yX0_endOf ∈ gw_tbl := List.mem_filter.mpr ⟨List.mem_of_getElem? (i := 296) (by decide +kernel), rfl⟩
theorem q297 : Cond.selects RX0 yX0_endOf yX0_endOf ∈ gw_tbl := List.mem_filter.mpr ⟨List.mem_of_getElem? (i := 297) (by decide +kernel), rfl⟩
theorem q298 : Cond.code yX0_endOf cX0_endOf 3 (some .int) ∈ gw_tbl := List.mem_filter.mpr ⟨List.mem_of_getElem? (i := 298) (by decide +kernel), rfl⟩
theorem q299 : Cond.methodLink RX0 51 yX0_setTags ∈ gw_tbl := List.mem_filter.mpr ⟨List.mem_of_getElem? (i := 299) (by decide +kernel), rfl⟩
theorem q301 : Cond.instanceMethod yX0_setTags ∈ gw_tbl := List.mem_filter.mpr ⟨List.mem_of_getElem? (i := 301) (by decide +kernel), rfl⟩
theorem q302 : Cond.code yX0_setTags cX0_setTags 6 none ∈ gw_tbl := List.mem_filter.mpr ⟨List.mem_of_getElem? (i := 302) (by decide +kernel), rfl⟩
theorem q303 : Cond.methodLink RX0 54 yX0_lowestGood ∈ gw_tbl := List.mem_filter.mpr ⟨List.mem_of_getElem? (i := 303) (by decide +kernel), rfl⟩
theorem q305 : Cond.instanceMethod yX0_lowestGood ∈ gw_tbl := List.mem_filter.mpr ⟨List.mem_of_getElem? (i := 305) (by decide +kernel), rfl⟩
theorem q306 : Cond.code yX0_lowestGood cX0_lowestGood 2 (some .int) ∈ gw_tbl := List.mem_filter.mpr ⟨List.mem_of_getElem? (i := 306) (by decide +kernel), rfl⟩
theorem q307 : Cond.methodLink RX0 60 yX0_narrowestWindow ∈ gw_tbl := List.mem_filter.mpr ⟨List.mem_of_getElem? (i := 307) (by decide +kernel), rfl⟩
theorem q309 : Cond.instanceMethod yX0_narrowestWindow ∈ gw_tbl := List.mem_filter.mpr ⟨List.mem_of_getElem? (i := 309) (by decide +kernel), rfl⟩
theorem q310 : Cond.code yX0_narrowestWindow cX0_narrowestWindow 2 (some .int) ∈ gw_tbl := List.mem_filter.mpr ⟨List.mem_of_getElem? (i := 310) (by decide +kernel), rfl⟩
theorem q311 : Cond.methodLink RX0 106 yX0_isDoubtful ∈ gw_tbl := List.mem_filter.mpr ⟨List.mem_of_getElem? (i := 311) (by decide +kernel), rfl⟩
theorem q313 : Cond.instanceMethod yX0_isDoubtful ∈ gw_tbl := List.mem_filter.mpr ⟨List.mem_of_getElem? (i := 313) (by decide +kernel), rfl⟩
theorem q314 : Cond.code yX0_isDoubtful cX0_isDoubtful 4 (some .boolean) ∈ gw_tbl := List.mem_filter.mpr ⟨List.mem_of_getElem? (i := 314) (by decide +kernel), rfl⟩
theorem q315 : Cond.methodLink RX0 113 yX0_goOnAlike ∈ gw_tbl := List.mem_filter.mpr ⟨List.mem_of_getElem? (i := 315) (by decide +kernel), rfl⟩
theorem q317 : Cond.instanceMethod yX0_goOnAlike ∈ gw_tbl := List.mem_filter.mpr ⟨List.mem_of_getElem? (i := 317) (by decide +kernel), rfl⟩
theorem q318 : Cond.code yX0_goOnAlike cX0_goOnAlike 5 (some .boolean) ∈ gw_tbl := List.mem_filter.mpr ⟨List.mem_of_getElem? (i := 318) (by decide +kernel), rfl⟩
theorem q319 : Cond.methodLink RX0 76 yX0_tagOf ∈ gw_tbl := List.mem_filter.mpr ⟨List.mem_of_getElem? (i := 319) (by decide +kernel), rfl⟩
theorem q320 : Cond.instanceMethod yX0_tagOf ∈ gw_tbl := List.mem_filter.mpr ⟨List.mem_of_getElem? (i := 320) (by decide +kernel), rfl⟩
theorem q321 : Cond.selects RX0 yX0_tagOf yX0_tagOf ∈ gw_tbl := List.mem_filter.mpr ⟨List.mem_of_getElem? (i := 321) (by decide +kernel), rfl⟩
theorem q322 : Cond.code yX0_tagOf cX0_tagOf 3 (some .int) ∈ gw_tbl := List.mem_filter.mpr ⟨List.mem_of_getElem? (i := 322) (by decide +kernel), rfl⟩
theorem q323 : Cond.methodLink RX0 110 yX0_lengthenMates ∈ gw_tbl := List.mem_filter.mpr ⟨List.mem_of_getElem? (i := 323) (by decide +kernel), rfl⟩
theorem q325 : Cond.instanceMethod yX0_lengthenMates ∈ gw_tbl := List.mem_filter.mpr ⟨List.mem_of_getElem? (i := 325) (by decide +kernel), rfl⟩
theorem q326 : Cond.code yX0_lengthenMates cX0_lengthenMates 5 none ∈ gw_tbl := List.mem_filter.mpr ⟨List.mem_of_getElem? (i := 326) (by decide +kernel), rfl⟩
theorem q327 : Cond.methodLink RX0 117 arraycopyName ∈ gw_tbl := List.mem_filter.mpr ⟨List.mem_of_getElem? (i := 327) (by decide +kernel), rfl⟩
theorem q328 : Cond.static arraycopyName ∈ gw_tbl := List.mem_filter.mpr ⟨List.mem_of_getElem? (i := 328) (by decide +kernel), rfl⟩
theorem q329 : Cond.native arraycopyName ∈ gw_tbl := List.mem_filter.mpr ⟨List.mem_of_getElem? (i := 329) (by decide +kernel), rfl⟩
theorem q330 : Cond.methodLink RX6 74 yX3_empty ∈ gw_tbl := List.mem_filter.mpr ⟨List.mem_of_getElem? (i := 330) (by decide +kernel), rfl⟩
theorem q331 : Cond.instanceMethod yX3_empty ∈ gw_tbl := List.mem_filter.mpr ⟨List.mem_of_getElem? (i := 331) (by decide +kernel), rfl⟩
theorem q332 : Cond.selects RX3 yX3_empty yX3_empty ∈ gw_tbl := List.mem_filter.mpr ⟨List.mem_of_getElem? (i := 332) (by decide +kernel), rfl⟩
theorem q333 : Cond.code yX3_empty cX3_empty 2 none ∈ gw_tbl := List.mem_filter.mpr ⟨List.mem_of_getElem? (i := 333) (by decide +kernel), rfl⟩
theorem q334 : Cond.fieldLink RX6 10 "BannedRows" "text" "LBannedRows$Text;" ∈ gw_tbl := List.mem_filter.mpr ⟨List.mem_of_getElem? (i := 334) (by decide +kernel), rfl⟩
theorem q335 : Cond.fieldLink RX6 19 "BannedRows" "told" "LBannedRows$Ban;" ∈ gw_tbl := List.mem_filter.mpr ⟨List.mem_of_getElem? (i := 335) (by decide +kernel), rfl⟩
theorem q336 : Cond.fieldLink RX6 26 "BannedRows" "now" "LBannedRows$Held;" ∈ gw_tbl := List.mem_filter.mpr ⟨List.mem_of_getElem? (i := 336) (by decide +kernel), rfl⟩
theorem q337 : Cond.fieldLink RX6 33 "BannedRows" "arcs" "LBannedRows$Arcs;" ∈ gw_tbl := List.mem_filter.mpr ⟨List.mem_of_getElem? (i := 337) (by decide +kernel), rfl⟩
theorem q338 : Cond.fieldLink RX6 40 "BannedRows" "sums" "LBannedRows$Sums;" ∈ gw_tbl := List.mem_filter.mpr ⟨List.mem_of_getElem? (i := 338) (by decide +kernel), rfl⟩
theorem q339 : Cond.fieldLink RX6 44 "BannedRows" "past" "[LBannedRows$Held;" ∈ gw_tbl := List.mem_filter.mpr ⟨List.mem_of_getElem? (i := 339) (by decide +kernel), rfl⟩
theorem q340 : Cond.fieldLink RX6 129 "BannedRows" "pastSize" "I" ∈ gw_tbl := List.mem_filter.mpr ⟨List.mem_of_getElem? (i := 340) (by decide +kernel), rfl⟩
theorem q341 : Cond.fieldLink RX6 48 "BannedRows" "images" "[LBannedRows$Held;" ∈ gw_tbl := List.mem_filter.mpr ⟨List.mem_of_getElem? (i := 341) (by decide +kernel), rfl⟩
theorem q342 : Cond.fieldLink RX6 51 "BannedRows" "kept" "[Z" ∈ gw_tbl := List.mem_filter.mpr ⟨List.mem_of_getElem? (i := 342) (by decide +kernel), rfl⟩
theorem q343 : Cond.fieldLink RX6 55 "BannedRows" "seen" "[I" ∈ gw_tbl := List.mem_filter.mpr ⟨List.mem_of_getElem? (i := 343) (by decide +kernel), rfl⟩
theorem q344 : Cond.fieldLink RX6 96 "BannedRows" "seenSize" "I" ∈ gw_tbl := List.mem_filter.mpr ⟨List.mem_of_getElem? (i := 344) (by decide +kernel), rfl⟩
theorem q368 : Cond.arrayClass .boolean ∈ gw_tbl := List.mem_filter.mpr ⟨List.mem_of_getElem? (i := 368) (by decide +kernel), rfl⟩
theorem q369 : Cond.methodLink RL 13 yX6_type ∈ gw_tbl := List.mem_filter.mpr ⟨List.mem_of_getElem? (i := 369) (by decide +kernel), rfl⟩
theorem q370 : Cond.instanceMethod yX6_type ∈ gw_tbl := List.mem_filter.mpr ⟨List.mem_of_getElem? (i := 370) (by decide +kernel), rfl⟩
theorem q371 : Cond.selects RX6 yX6_type yX6_type ∈ gw_tbl := List.mem_filter.mpr ⟨List.mem_of_getElem? (i := 371) (by decide +kernel), rfl⟩
theorem q372 : Cond.code yX6_type cX6_type 2 (some .int) ∈ gw_tbl := List.mem_filter.mpr ⟨List.mem_of_getElem? (i := 372) (by decide +kernel), rfl⟩
theorem q373 : Cond.methodLink RX6 83 yX5_append ∈ gw_tbl := List.mem_filter.mpr ⟨List.mem_of_getElem? (i := 373) (by decide +kernel), rfl⟩
theorem q374 : Cond.instanceMethod yX5_append ∈ gw_tbl := List.mem_filter.mpr ⟨List.mem_of_getElem? (i := 374) (by decide +kernel), rfl⟩
theorem q375 : Cond.selects RX5 yX5_append yX5_append ∈ gw_tbl := List.mem_filter.mpr ⟨List.mem_of_getElem? (i := 375) (by decide +kernel), rfl⟩
theorem q376 : Cond.code yX5_append cX5_append 2 none ∈ gw_tbl := List.mem_filter.mpr ⟨List.mem_of_getElem? (i := 376) (by decide +kernel), rfl⟩
theorem q377 : Cond.methodLink RL 18 yX6_clear ∈ gw_tbl := List.mem_filter.mpr ⟨List.mem_of_getElem? (i := 377) (by decide +kernel), rfl⟩
theorem q378 : Cond.instanceMethod yX6_clear ∈ gw_tbl := List.mem_filter.mpr ⟨List.mem_of_getElem? (i := 378) (by decide +kernel), rfl⟩
theorem q379 : Cond.selects RX6 yX6_clear yX6_clear ∈ gw_tbl := List.mem_filter.mpr ⟨List.mem_of_getElem? (i := 379) (by decide +kernel), rfl⟩
theorem q380 : Cond.code yX6_clear cX6_clear 2 (some .int) ∈ gw_tbl := List.mem_filter.mpr ⟨List.mem_of_getElem? (i := 380) (by decide +kernel), rfl⟩
theorem q381 : Cond.methodLink RL 23 yX6_tells ∈ gw_tbl := List.mem_filter.mpr ⟨List.mem_of_getElem? (i := 381) (by decide +kernel), rfl⟩
theorem q382 : Cond.instanceMethod yX6_tells ∈ gw_tbl := List.mem_filter.mpr ⟨List.mem_of_getElem? (i := 382) (by decide +kernel), rfl⟩
theorem q383 : Cond.selects RX6 yX6_tells yX6_tells ∈ gw_tbl := List.mem_filter.mpr ⟨List.mem_of_getElem? (i := 383) (by decide +kernel), rfl⟩
theorem q384 : Cond.code yX6_tells cX6_tells 3 (some .int) ∈ gw_tbl := List.mem_filter.mpr ⟨List.mem_of_getElem? (i := 384) (by decide +kernel), rfl⟩
theorem q385 : Cond.methodLink RX6 86 yX5_readTo ∈ gw_tbl := List.mem_filter.mpr ⟨List.mem_of_getElem? (i := 385) (by decide +kernel), rfl⟩
theorem q386 : Cond.instanceMethod yX5_readTo ∈ gw_tbl := List.mem_filter.mpr ⟨List.mem_of_getElem? (i := 386) (by decide +kernel), rfl⟩
theorem q387 : Cond.selects RX5 yX5_readTo yX5_readTo ∈ gw_tbl := List.mem_filter.mpr ⟨List.mem_of_getElem? (i := 387) (by decide +kernel), rfl⟩
theorem q388 : Cond.code yX5_readTo cX5_readTo 3 (some .int) ∈ gw_tbl := List.mem_filter.mpr ⟨List.mem_of_getElem? (i := 388) (by decide +kernel), rfl⟩
theorem q389 : Cond.methodLink RX5 19 yX1_setFirst ∈ gw_tbl := List.mem_filter.mpr ⟨List.mem_of_getElem? (i := 389) (by decide +kernel), rfl⟩
theorem q390 : Cond.methodLink RX5 34 yX5_isTokenStart ∈ gw_tbl := List.mem_filter.mpr ⟨List.mem_of_getElem? (i := 390) (by decide +kernel), rfl⟩
theorem q392 : Cond.instanceMethod yX5_isTokenStart ∈ gw_tbl := List.mem_filter.mpr ⟨List.mem_of_getElem? (i := 392) (by decide +kernel), rfl⟩
theorem q393 : Cond.code yX5_isTokenStart cX5_isTokenStart 2 (some .boolean) ∈ gw_tbl := List.mem_filter.mpr ⟨List.mem_of_getElem? (i := 393) (by decide +kernel), rfl⟩
theorem q394 : Cond.methodLink RX5 42 yX5_letterAt ∈ gw_tbl := List.mem_filter.mpr ⟨List.mem_of_getElem? (i := 394) (by decide +kernel), rfl⟩
theorem q396 : Cond.instanceMethod yX5_letterAt ∈ gw_tbl := List.mem_filter.mpr ⟨List.mem_of_getElem? (i := 396) (by decide +kernel), rfl⟩
theorem q397 : Cond.code yX5_letterAt cX5_letterAt 2 (some .int) ∈ gw_tbl := List.mem_filter.mpr ⟨List.mem_of_getElem? (i := 397) (by decide +kernel), rfl⟩
theorem q398 : Cond.methodLink RX5 46 yX5_isFigure ∈ gw_tbl := List.mem_filter.mpr ⟨List.mem_of_getElem? (i := 398) (by decide +kernel), rfl⟩
theorem q400 : Cond.instanceMethod yX5_isFigure ∈ gw_tbl := List.mem_filter.mpr ⟨List.mem_of_getElem? (i := 400) (by decide +kernel), rfl⟩
theorem q401 : Cond.code yX5_isFigure cX5_isFigure 3 (some .boolean) ∈ gw_tbl := List.mem_filter.mpr ⟨List.mem_of_getElem? (i := 401) (by decide +kernel), rfl⟩
theorem q402 : Cond.methodLink RX5 38 yX5_takes ∈ gw_tbl := List.mem_filter.mpr ⟨List.mem_of_getElem? (i := 402) (by decide +kernel), rfl⟩
theorem q404 : Cond.instanceMethod yX5_takes ∈ gw_tbl := List.mem_filter.mpr ⟨List.mem_of_getElem? (i := 404) (by decide +kernel), rfl⟩
theorem q405 : Cond.code yX5_takes cX5_takes 3 (some .boolean) ∈ gw_tbl := List.mem_filter.mpr ⟨List.mem_of_getElem? (i := 405) (by decide +kernel), rfl⟩
theorem q406 : Cond.methodLink RX5 49 yX5_takesSort ∈ gw_tbl := List.mem_filter.mpr ⟨List.mem_of_getElem? (i := 406) (by decide +kernel), rfl⟩
theorem q408 : Cond.instanceMethod yX5_takesSort ∈ gw_tbl := List.mem_filter.mpr ⟨List.mem_of_getElem? (i := 408) (by decide +kernel), rfl⟩
theorem q409 : Cond.code yX5_takesSort cX5_takesSort 3 (some .boolean) ∈ gw_tbl := List.mem_filter.mpr ⟨List.mem_of_getElem? (i := 409) (by decide +kernel), rfl⟩
theorem q410 : Cond.methodLink RX5 52 yX5_figureAt ∈ gw_tbl := List.mem_filter.mpr ⟨List.mem_of_getElem? (i := 410) (by decide +kernel), rfl⟩
theorem q412 : Cond.instanceMethod yX5_figureAt ∈ gw_tbl := List.mem_filter.mpr ⟨List.mem_of_getElem? (i := 412) (by decide +kernel), rfl⟩
theorem q413 : Cond.code yX5_figureAt cX5_figureAt 5 (some .int) ∈ gw_tbl := List.mem_filter.mpr ⟨List.mem_of_getElem? (i := 413) (by decide +kernel), rfl⟩
theorem q414 : Cond.methodLink RX5 68 yX5_tokenLength ∈ gw_tbl := List.mem_filter.mpr ⟨List.mem_of_getElem? (i := 414) (by decide +kernel), rfl⟩
theorem q416 : Cond.instanceMethod yX5_tokenLength ∈ gw_tbl := List.mem_filter.mpr ⟨List.mem_of_getElem? (i := 416) (by decide +kernel), rfl⟩
theorem q417 : Cond.code yX5_tokenLength cX5_tokenLength 3 (some .int) ∈ gw_tbl := List.mem_filter.mpr ⟨List.mem_of_getElem? (i := 417) (by decide +kernel), rfl⟩
theorem q418 : Cond.methodLink RX5 59 Lib.Math.max.name ∈ gw_tbl := List.mem_filter.mpr ⟨List.mem_of_getElem? (i := 418) (by decide +kernel), rfl⟩
theorem q419 : Cond.static Lib.Math.max.name ∈ gw_tbl := List.mem_filter.mpr ⟨List.mem_of_getElem? (i := 419) (by decide +kernel), rfl⟩
theorem q420 : Cond.code Lib.Math.max.name Lib.Math.max.code 2 (some .int) ∈ gw_tbl := List.mem_filter.mpr ⟨List.mem_of_getElem? (i := 420) (by decide +kernel), rfl⟩
theorem q421 : Cond.methodLink RX5 71 yX5_bitsAt ∈ gw_tbl := List.mem_filter.mpr ⟨List.mem_of_getElem? (i := 421) (by decide +kernel), rfl⟩
theorem q423 : Cond.instanceMethod yX5_bitsAt ∈ gw_tbl := List.mem_filter.mpr ⟨List.mem_of_getElem? (i := 423) (by decide +kernel), rfl⟩
theorem q424 : Cond.code yX5_bitsAt cX5_bitsAt 6 (some .int) ∈ gw_tbl := List.mem_filter.mpr ⟨List.mem_of_getElem? (i := 424) (by decide +kernel), rfl⟩
theorem q425 : Cond.methodLink RX5 80 yX5_takesRate ∈ gw_tbl := List.mem_filter.mpr ⟨List.mem_of_getElem? (i := 425) (by decide +kernel), rfl⟩
theorem q427 : Cond.instanceMethod yX5_takesRate ∈ gw_tbl := List.mem_filter.mpr ⟨List.mem_of_getElem? (i := 427) (by decide +kernel), rfl⟩
theorem q428 : Cond.code yX5_takesRate cX5_takesRate 2 (some .boolean) ∈ gw_tbl := List.mem_filter.mpr ⟨List.mem_of_getElem? (i := 428) (by decide +kernel), rfl⟩
theorem q429 : Cond.methodLink RX6 90 yX6_remember ∈ gw_tbl := List.mem_filter.mpr ⟨List.mem_of_getElem? (i := 429) (by decide +kernel), rfl⟩
theorem q431 : Cond.instanceMethod yX6_remember ∈ gw_tbl := List.mem_filter.mpr ⟨List.mem_of_getElem? (i := 431) (by decide +kernel), rfl⟩
theorem q432 : Cond.code yX6_remember cX6_remember 3 none ∈ gw_tbl := List.mem_filter.mpr ⟨List.mem_of_getElem? (i := 432) (by decide +kernel), rfl⟩
theorem q433 : Cond.methodLink RX6 202 yX2_copy ∈ gw_tbl := List.mem_filter.mpr ⟨List.mem_of_getElem? (i := 433) (by decide +kernel), rfl⟩
theorem q434 : Cond.instanceMethod yX2_copy ∈ gw_tbl := List.mem_filter.mpr ⟨List.mem_of_getElem? (i := 434) (by decide +kernel), rfl⟩
theorem q435 : Cond.selects RX2 yX2_copy yX2_copy ∈ gw_tbl := List.mem_filter.mpr ⟨List.mem_of_getElem? (i := 435) (by decide +kernel), rfl⟩
theorem q436 : Cond.code yX2_copy cX2_copy 2 none ∈ gw_tbl := List.mem_filter.mpr ⟨List.mem_of_getElem? (i := 436) (by decide +kernel), rfl⟩
theorem q437 : Cond.methodLink RX2 23 yX1_copy ∈ gw_tbl := List.mem_filter.mpr ⟨List.mem_of_getElem? (i := 437) (by decide +kernel), rfl⟩
theorem q438 : Cond.instanceMethod yX1_copy ∈ gw_tbl := List.mem_filter.mpr ⟨List.mem_of_getElem? (i := 438) (by decide +kernel), rfl⟩
theorem q439 : Cond.selects RX1 yX1_copy yX1_copy ∈ gw_tbl := List.mem_filter.mpr ⟨List.mem_of_getElem? (i := 439) (by decide +kernel), rfl⟩
theorem q440 : Cond.code yX1_copy cX1_copy 2 none ∈ gw_tbl := List.mem_filter.mpr ⟨List.mem_of_getElem? (i := 440) (by decide +kernel), rfl⟩
theorem q441 : Cond.methodLink RX2 27 yX3_copy ∈ gw_tbl := List.mem_filter.mpr ⟨List.mem_of_getElem? (i := 441) (by decide +kernel), rfl⟩
theorem q442 : Cond.instanceMethod yX3_copy ∈ gw_tbl := List.mem_filter.mpr ⟨List.mem_of_getElem? (i := 442) (by decide +kernel), rfl⟩
theorem q443 : Cond.selects RX3 yX3_copy yX3_copy ∈ gw_tbl := List.mem_filter.mpr ⟨List.mem_of_getElem? (i := 443) (by decide +kernel), rfl⟩
theorem q444 : Cond.code yX3_copy cX3_copy 2 none ∈ gw_tbl := List.mem_filter.mpr ⟨List.mem_of_getElem? (i := 444) (by decide +kernel), rfl⟩
theorem q445 : Cond.methodLink RX3 28 arraycopyName ∈ gw_tbl := List.mem_filter.mpr ⟨List.mem_of_getElem? (i := 445) (by decide +kernel), rfl⟩
theorem q446 : Cond.methodLink RX6 93 yX1_copy ∈ gw_tbl := List.mem_filter.mpr ⟨List.mem_of_getElem? (i := 446) (by decide +kernel), rfl⟩
theorem q447 : Cond.methodLink RL 27 yX6_sends ∈ gw_tbl := List.mem_filter.mpr ⟨List.mem_of_getElem? (i := 447) (by decide +kernel), rfl⟩
theorem q448 : Cond.instanceMethod yX6_sends ∈ gw_tbl := List.mem_filter.mpr ⟨List.mem_of_getElem? (i := 448) (by decide +kernel), rfl⟩
theorem q449 : Cond.selects RX6 yX6_sends yX6_sends ∈ gw_tbl := List.mem_filter.mpr ⟨List.mem_of_getElem? (i := 449) (by decide +kernel), rfl⟩
theorem q450 : Cond.code yX6_sends cX6_sends 4 (some .int) ∈ gw_tbl := List.mem_filter.mpr ⟨List.mem_of_getElem? (i := 450) (by decide +kernel), rfl⟩
theorem q451 : Cond.methodLink RX6 102 yX1_tagCount ∈ gw_tbl := List.mem_filter.mpr ⟨List.mem_of_getElem? (i := 451) (by decide +kernel), rfl⟩
theorem q452 : Cond.methodLink RX6 113 yX0_wordWith ∈ gw_tbl := List.mem_filter.mpr ⟨List.mem_of_getElem? (i := 452) (by decide +kernel), rfl⟩
theorem q453 : Cond.instanceMethod yX0_wordWith ∈ gw_tbl := List.mem_filter.mpr ⟨List.mem_of_getElem? (i := 453) (by decide +kernel), rfl⟩
theorem q454 : Cond.selects RX0 yX0_wordWith yX0_wordWith ∈ gw_tbl := List.mem_filter.mpr ⟨List.mem_of_getElem? (i := 454) (by decide +kernel), rfl⟩
theorem q455 : Cond.code yX0_wordWith cX0_wordWith 4 (some .int) ∈ gw_tbl := List.mem_filter.mpr ⟨List.mem_of_getElem? (i := 455) (by decide +kernel), rfl⟩
theorem q456 : Cond.methodLink RX6 117 yX0_endOf ∈ gw_tbl := List.mem_filter.mpr ⟨List.mem_of_getElem? (i := 456) (by decide +kernel), rfl⟩
theorem q457 : Cond.methodLink RX6 120 yX3_append ∈ gw_tbl := List.mem_filter.mpr ⟨List.mem_of_getElem? (i := 457) (by decide +kernel), rfl⟩
theorem q458 : Cond.instanceMethod yX3_append ∈ gw_tbl := List.mem_filter.mpr ⟨List.mem_of_getElem? (i := 458) (by decide +kernel), rfl⟩
theorem q459 : Cond.selects RX3 yX3_append yX3_append ∈ gw_tbl := List.mem_filter.mpr ⟨List.mem_of_getElem? (i := 459) (by decide +kernel), rfl⟩
theorem q460 : Cond.code yX3_append cX3_append 4 none ∈ gw_tbl := List.mem_filter.mpr ⟨List.mem_of_getElem? (i := 460) (by decide +kernel), rfl⟩
theorem q461 : Cond.methodLink RL 31 yX6_flips ∈ gw_tbl := List.mem_filter.mpr ⟨List.mem_of_getElem? (i := 461) (by decide +kernel), rfl⟩
theorem q462 : Cond.instanceMethod yX6_flips ∈ gw_tbl := List.mem_filter.mpr ⟨List.mem_of_getElem? (i := 462) (by decide +kernel), rfl⟩
theorem q463 : Cond.selects RX6 yX6_flips yX6_flips ∈ gw_tbl := List.mem_filter.mpr ⟨List.mem_of_getElem? (i := 463) (by decide +kernel), rfl⟩
theorem q464 : Cond.code yX6_flips cX6_flips 3 (some .int) ∈ gw_tbl := List.mem_filter.mpr ⟨List.mem_of_getElem? (i := 464) (by decide +kernel), rfl⟩
theorem q465 : Cond.methodLink RX6 126 yX3_turn ∈ gw_tbl := List.mem_filter.mpr ⟨List.mem_of_getElem? (i := 465) (by decide +kernel), rfl⟩
theorem q466 : Cond.instanceMethod yX3_turn ∈ gw_tbl := List.mem_filter.mpr ⟨List.mem_of_getElem? (i := 466) (by decide +kernel), rfl⟩
theorem q467 : Cond.selects RX3 yX3_turn yX3_turn ∈ gw_tbl := List.mem_filter.mpr ⟨List.mem_of_getElem? (i := 467) (by decide +kernel), rfl⟩
theorem q468 : Cond.code yX3_turn cX3_turn 3 (some .int) ∈ gw_tbl := List.mem_filter.mpr ⟨List.mem_of_getElem? (i := 468) (by decide +kernel), rfl⟩
theorem q469 : Cond.methodLink RL 35 yX6_undo ∈ gw_tbl := List.mem_filter.mpr ⟨List.mem_of_getElem? (i := 469) (by decide +kernel), rfl⟩
theorem q470 : Cond.instanceMethod yX6_undo ∈ gw_tbl := List.mem_filter.mpr ⟨List.mem_of_getElem? (i := 470) (by decide +kernel), rfl⟩
theorem q471 : Cond.selects RX6 yX6_undo yX6_undo ∈ gw_tbl := List.mem_filter.mpr ⟨List.mem_of_getElem? (i := 471) (by decide +kernel), rfl⟩
theorem q472 : Cond.code yX6_undo cX6_undo 1 (some .int) ∈ gw_tbl := List.mem_filter.mpr ⟨List.mem_of_getElem? (i := 472) (by decide +kernel), rfl⟩
theorem q473 : Cond.methodLink RX6 132 yX6_become ∈ gw_tbl := List.mem_filter.mpr ⟨List.mem_of_getElem? (i := 473) (by decide +kernel), rfl⟩
theorem q475 : Cond.instanceMethod yX6_become ∈ gw_tbl := List.mem_filter.mpr ⟨List.mem_of_getElem? (i := 475) (by decide +kernel), rfl⟩
theorem q476 : Cond.code yX6_become cX6_become 2 none ∈ gw_tbl := List.mem_filter.mpr ⟨List.mem_of_getElem? (i := 476) (by decide +kernel), rfl⟩
theorem q477 : Cond.methodLink RL 39 yX6_step ∈ gw_tbl := List.mem_filter.mpr ⟨List.mem_of_getElem? (i := 477) (by decide +kernel), rfl⟩
theorem q478 : Cond.instanceMethod yX6_step ∈ gw_tbl := List.mem_filter.mpr ⟨List.mem_of_getElem? (i := 478) (by decide +kernel), rfl⟩
theorem q479 : Cond.selects RX6 yX6_step yX6_step ∈ gw_tbl := List.mem_filter.mpr ⟨List.mem_of_getElem? (i := 479) (by decide +kernel), rfl⟩
theorem q480 : Cond.code yX6_step cX6_step 3 (some .int) ∈ gw_tbl := List.mem_filter.mpr ⟨List.mem_of_getElem? (i := 480) (by decide +kernel), rfl⟩
theorem q481 : Cond.methodLink RX6 136 yX6_isNoState ∈ gw_tbl := List.mem_filter.mpr ⟨List.mem_of_getElem? (i := 481) (by decide +kernel), rfl⟩
theorem q483 : Cond.instanceMethod yX6_isNoState ∈ gw_tbl := List.mem_filter.mpr ⟨List.mem_of_getElem? (i := 483) (by decide +kernel), rfl⟩
theorem q484 : Cond.code yX6_isNoState cX6_isNoState 2 (some .boolean) ∈ gw_tbl := List.mem_filter.mpr ⟨List.mem_of_getElem? (i := 484) (by decide +kernel), rfl⟩
theorem q485 : Cond.methodLink RX6 140 yX1_lead ∈ gw_tbl := List.mem_filter.mpr ⟨List.mem_of_getElem? (i := 485) (by decide +kernel), rfl⟩
theorem q486 : Cond.methodLink RL 44 yX6_arc ∈ gw_tbl := List.mem_filter.mpr ⟨List.mem_of_getElem? (i := 486) (by decide +kernel), rfl⟩
theorem q487 : Cond.instanceMethod yX6_arc ∈ gw_tbl := List.mem_filter.mpr ⟨List.mem_of_getElem? (i := 487) (by decide +kernel), rfl⟩
theorem q488 : Cond.selects RX6 yX6_arc yX6_arc ∈ gw_tbl := List.mem_filter.mpr ⟨List.mem_of_getElem? (i := 488) (by decide +kernel), rfl⟩
theorem q489 : Cond.code yX6_arc cX6_arc 4 (some .int) ∈ gw_tbl := List.mem_filter.mpr ⟨List.mem_of_getElem? (i := 489) (by decide +kernel), rfl⟩
theorem q490 : Cond.methodLink RX6 143 yX6_isNoWord ∈ gw_tbl := List.mem_filter.mpr ⟨List.mem_of_getElem? (i := 490) (by decide +kernel), rfl⟩
theorem q492 : Cond.instanceMethod yX6_isNoWord ∈ gw_tbl := List.mem_filter.mpr ⟨List.mem_of_getElem? (i := 492) (by decide +kernel), rfl⟩
theorem q493 : Cond.code yX6_isNoWord cX6_isNoWord 2 (some .boolean) ∈ gw_tbl := List.mem_filter.mpr ⟨List.mem_of_getElem? (i := 493) (by decide +kernel), rfl⟩
theorem q494 : Cond.methodLink RX6 213 yX1_wordCount ∈ gw_tbl := List.mem_filter.mpr ⟨List.mem_of_getElem? (i := 494) (by decide +kernel), rfl⟩
theorem q495 : Cond.methodLink RX6 146 yX0_tagOf ∈ gw_tbl := List.mem_filter.mpr ⟨List.mem_of_getElem? (i := 495) (by decide +kernel), rfl⟩
theorem q496 : Cond.methodLink RL 49 yX6_state ∈ gw_tbl := List.mem_filter.mpr ⟨List.mem_of_getElem? (i := 496) (by decide +kernel), rfl⟩
theorem q497 : Cond.instanceMethod yX6_state ∈ gw_tbl := List.mem_filter.mpr ⟨List.mem_of_getElem? (i := 497) (by decide +kernel), rfl⟩
theorem q498 : Cond.selects RX6 yX6_state yX6_state ∈ gw_tbl := List.mem_filter.mpr ⟨List.mem_of_getElem? (i := 498) (by decide +kernel), rfl⟩
theorem q499 : Cond.code yX6_state cX6_state 3 (some .int) ∈ gw_tbl := List.mem_filter.mpr ⟨List.mem_of_getElem? (i := 499) (by decide +kernel), rfl⟩
theorem q500 : Cond.methodLink RX6 149 yX0_arcsFrom ∈ gw_tbl := List.mem_filter.mpr ⟨List.mem_of_getElem? (i := 500) (by decide +kernel), rfl⟩
theorem q501 : Cond.instanceMethod yX0_arcsFrom ∈ gw_tbl := List.mem_filter.mpr ⟨List.mem_of_getElem? (i := 501) (by decide +kernel), rfl⟩
theorem q502 : Cond.selects RX0 yX0_arcsFrom yX0_arcsFrom ∈ gw_tbl := List.mem_filter.mpr ⟨List.mem_of_getElem? (i := 502) (by decide +kernel), rfl⟩
theorem q503 : Cond.code yX0_arcsFrom cX0_arcsFrom 4 (some .int) ∈ gw_tbl := List.mem_filter.mpr ⟨List.mem_of_getElem? (i := 503) (by decide +kernel), rfl⟩
theorem q504 : Cond.methodLink RX6 153 yX0_isGood ∈ gw_tbl := List.mem_filter.mpr ⟨List.mem_of_getElem? (i := 504) (by decide +kernel), rfl⟩
theorem q505 : Cond.instanceMethod yX0_isGood ∈ gw_tbl := List.mem_filter.mpr ⟨List.mem_of_getElem? (i := 505) (by decide +kernel), rfl⟩
theorem q506 : Cond.selects RX0 yX0_isGood yX0_isGood ∈ gw_tbl := List.mem_filter.mpr ⟨List.mem_of_getElem? (i := 506) (by decide +kernel), rfl⟩
theorem q507 : Cond.code yX0_isGood cX0_isGood 2 (some .boolean) ∈ gw_tbl := List.mem_filter.mpr ⟨List.mem_of_getElem? (i := 507) (by decide +kernel), rfl⟩
theorem q508 : Cond.methodLink RL 53 yX6_weight ∈ gw_tbl := List.mem_filter.mpr ⟨List.mem_of_getElem? (i := 508) (by decide +kernel), rfl⟩
theorem q509 : Cond.instanceMethod yX6_weight ∈ gw_tbl := List.mem_filter.mpr ⟨List.mem_of_getElem? (i := 509) (by decide +kernel), rfl⟩
theorem q510 : Cond.selects RX6 yX6_weight yX6_weight ∈ gw_tbl := List.mem_filter.mpr ⟨List.mem_of_getElem? (i := 510) (by decide +kernel), rfl⟩
theorem q511 : Cond.code yX6_weight cX6_weight 4 (some .int) ∈ gw_tbl := List.mem_filter.mpr ⟨List.mem_of_getElem? (i := 511) (by decide +kernel), rfl⟩
theorem q512 : Cond.methodLink RX6 159 yX4_settle ∈ gw_tbl := List.mem_filter.mpr ⟨List.mem_of_getElem? (i := 512) (by decide +kernel), rfl⟩
theorem q513 : Cond.instanceMethod yX4_settle ∈ gw_tbl := List.mem_filter.mpr ⟨List.mem_of_getElem? (i := 513) (by decide +kernel), rfl⟩
theorem q514 : Cond.selects RX4 yX4_settle yX4_settle ∈ gw_tbl := List.mem_filter.mpr ⟨List.mem_of_getElem? (i := 514) (by decide +kernel), rfl⟩
theorem q515 : Cond.code yX4_settle cX4_settle 6 none ∈ gw_tbl := List.mem_filter.mpr ⟨List.mem_of_getElem? (i := 515) (by decide +kernel), rfl⟩
theorem q516 : Cond.methodLink RX4 18 yX4_setAll ∈ gw_tbl := List.mem_filter.mpr ⟨List.mem_of_getElem? (i := 516) (by decide +kernel), rfl⟩
theorem q518 : Cond.instanceMethod yX4_setAll ∈ gw_tbl := List.mem_filter.mpr ⟨List.mem_of_getElem? (i := 518) (by decide +kernel), rfl⟩
theorem q519 : Cond.code yX4_setAll cX4_setAll 4 none ∈ gw_tbl := List.mem_filter.mpr ⟨List.mem_of_getElem? (i := 519) (by decide +kernel), rfl⟩
theorem q520 : Cond.methodLink RX4 41 yX4_lessen ∈ gw_tbl := List.mem_filter.mpr ⟨List.mem_of_getElem? (i := 520) (by decide +kernel), rfl⟩
theorem q522 : Cond.instanceMethod yX4_lessen ∈ gw_tbl := List.mem_filter.mpr ⟨List.mem_of_getElem? (i := 522) (by decide +kernel), rfl⟩
theorem q523 : Cond.code yX4_lessen cX4_lessen 5 (some .boolean) ∈ gw_tbl := List.mem_filter.mpr ⟨List.mem_of_getElem? (i := 523) (by decide +kernel), rfl⟩
theorem q524 : Cond.methodLink RX4 62 yX4_sumOver ∈ gw_tbl := List.mem_filter.mpr ⟨List.mem_of_getElem? (i := 524) (by decide +kernel), rfl⟩
theorem q526 : Cond.instanceMethod yX4_sumOver ∈ gw_tbl := List.mem_filter.mpr ⟨List.mem_of_getElem? (i := 526) (by decide +kernel), rfl⟩
theorem q527 : Cond.code yX4_sumOver cX4_sumOver 5 (some .int) ∈ gw_tbl := List.mem_filter.mpr ⟨List.mem_of_getElem? (i := 527) (by decide +kernel), rfl⟩
theorem q528 : Cond.methodLink RX4 71 yX0_endOf ∈ gw_tbl := List.mem_filter.mpr ⟨List.mem_of_getElem? (i := 528) (by decide +kernel), rfl⟩
theorem q529 : Cond.methodLink RX4 45 yX4_at ∈ gw_tbl := List.mem_filter.mpr ⟨List.mem_of_getElem? (i := 529) (by decide +kernel), rfl⟩
theorem q530 : Cond.instanceMethod yX4_at ∈ gw_tbl := List.mem_filter.mpr ⟨List.mem_of_getElem? (i := 530) (by decide +kernel), rfl⟩
theorem q531 : Cond.selects RX4 yX4_at yX4_at ∈ gw_tbl := List.mem_filter.mpr ⟨List.mem_of_getElem? (i := 531) (by decide +kernel), rfl⟩
theorem q532 : Cond.code yX4_at cX4_at 2 (some .int) ∈ gw_tbl := List.mem_filter.mpr ⟨List.mem_of_getElem? (i := 532) (by decide +kernel), rfl⟩
theorem q533 : Cond.methodLink RX4 66 Lib.Math.min.name ∈ gw_tbl := List.mem_filter.mpr ⟨List.mem_of_getElem? (i := 533) (by decide +kernel), rfl⟩
theorem q534 : Cond.methodLink RX4 56 arraycopyName ∈ gw_tbl := List.mem_filter.mpr ⟨List.mem_of_getElem? (i := 534) (by decide +kernel), rfl⟩
theorem q535 : Cond.methodLink RX6 163 yX4_at ∈ gw_tbl := List.mem_filter.mpr ⟨List.mem_of_getElem? (i := 535) (by decide +kernel), rfl⟩
theorem q536 : Cond.methodLink RX6 166 yX4_shareOf ∈ gw_tbl := List.mem_filter.mpr ⟨List.mem_of_getElem? (i := 536) (by decide +kernel), rfl⟩
theorem q537 : Cond.instanceMethod yX4_shareOf ∈ gw_tbl := List.mem_filter.mpr ⟨List.mem_of_getElem? (i := 537) (by decide +kernel), rfl⟩
theorem q538 : Cond.selects RX4 yX4_shareOf yX4_shareOf ∈ gw_tbl := List.mem_filter.mpr ⟨List.mem_of_getElem? (i := 538) (by decide +kernel), rfl⟩
theorem q539 : Cond.code yX4_shareOf cX4_shareOf 3 (some .int) ∈ gw_tbl := List.mem_filter.mpr ⟨List.mem_of_getElem? (i := 539) (by decide +kernel), rfl⟩
theorem q540 : Cond.methodLink RX4 32 yX4_total ∈ gw_tbl := List.mem_filter.mpr ⟨List.mem_of_getElem? (i := 540) (by decide +kernel), rfl⟩
theorem q542 : Cond.instanceMethod yX4_total ∈ gw_tbl := List.mem_filter.mpr ⟨List.mem_of_getElem? (i := 542) (by decide +kernel), rfl⟩
theorem q543 : Cond.code yX4_total cX4_total 3 (some .int) ∈ gw_tbl := List.mem_filter.mpr ⟨List.mem_of_getElem? (i := 543) (by decide +kernel), rfl⟩
theorem q544 : Cond.methodLink RL 57 yX6_rows ∈ gw_tbl := List.mem_filter.mpr ⟨List.mem_of_getElem? (i := 544) (by decide +kernel), rfl⟩
theorem q545 : Cond.instanceMethod yX6_rows ∈ gw_tbl := List.mem_filter.mpr ⟨List.mem_of_getElem? (i := 545) (by decide +kernel), rfl⟩
theorem q546 : Cond.selects RX6 yX6_rows yX6_rows ∈ gw_tbl := List.mem_filter.mpr ⟨List.mem_of_getElem? (i := 546) (by decide +kernel), rfl⟩
theorem q547 : Cond.code yX6_rows cX6_rows 2 (some .int) ∈ gw_tbl := List.mem_filter.mpr ⟨List.mem_of_getElem? (i := 547) (by decide +kernel), rfl⟩
theorem q548 : Cond.methodLink RX6 169 yX4_countRows ∈ gw_tbl := List.mem_filter.mpr ⟨List.mem_of_getElem? (i := 548) (by decide +kernel), rfl⟩
theorem q549 : Cond.instanceMethod yX4_countRows ∈ gw_tbl := List.mem_filter.mpr ⟨List.mem_of_getElem? (i := 549) (by decide +kernel), rfl⟩
theorem q550 : Cond.selects RX4 yX4_countRows yX4_countRows ∈ gw_tbl := List.mem_filter.mpr ⟨List.mem_of_getElem? (i := 550) (by decide +kernel), rfl⟩
theorem q551 : Cond.code yX4_countRows cX4_countRows 5 (some .int) ∈ gw_tbl := List.mem_filter.mpr ⟨List.mem_of_getElem? (i := 551) (by decide +kernel), rfl⟩
theorem q552 : Cond.methodLink RX4 22 yX1_start ∈ gw_tbl := List.mem_filter.mpr ⟨List.mem_of_getElem? (i := 552) (by decide +kernel), rfl⟩
theorem q553 : Cond.instanceMethod yX1_start ∈ gw_tbl := List.mem_filter.mpr ⟨List.mem_of_getElem? (i := 553) (by decide +kernel), rfl⟩
theorem q554 : Cond.selects RX1 yX1_start yX1_start ∈ gw_tbl := List.mem_filter.mpr ⟨List.mem_of_getElem? (i := 554) (by decide +kernel), rfl⟩
theorem q555 : Cond.code yX1_start cX1_start 1 (some .int) ∈ gw_tbl := List.mem_filter.mpr ⟨List.mem_of_getElem? (i := 555) (by decide +kernel), rfl⟩
theorem q556 : Cond.methodLink RX4 28 yX4_lengthenRows ∈ gw_tbl := List.mem_filter.mpr ⟨List.mem_of_getElem? (i := 556) (by decide +kernel), rfl⟩
theorem q558 : Cond.instanceMethod yX4_lengthenRows ∈ gw_tbl := List.mem_filter.mpr ⟨List.mem_of_getElem? (i := 558) (by decide +kernel), rfl⟩
theorem q559 : Cond.code yX4_lengthenRows cX4_lengthenRows 5 none ∈ gw_tbl := List.mem_filter.mpr ⟨List.mem_of_getElem? (i := 559) (by decide +kernel), rfl⟩
theorem q560 : Cond.methodLink RX4 49 yX1_stateCount ∈ gw_tbl := List.mem_filter.mpr ⟨List.mem_of_getElem? (i := 560) (by decide +kernel), rfl⟩
theorem q561 : Cond.methodLink RX4 52 yX1_lead ∈ gw_tbl := List.mem_filter.mpr ⟨List.mem_of_getElem? (i := 561) (by decide +kernel), rfl⟩
theorem q562 : Cond.methodLink RL 61 yX6_word ∈ gw_tbl := List.mem_filter.mpr ⟨List.mem_of_getElem? (i := 562) (by decide +kernel), rfl⟩
theorem q563 : Cond.instanceMethod yX6_word ∈ gw_tbl := List.mem_filter.mpr ⟨List.mem_of_getElem? (i := 563) (by decide +kernel), rfl⟩
theorem q564 : Cond.selects RX6 yX6_word yX6_word ∈ gw_tbl := List.mem_filter.mpr ⟨List.mem_of_getElem? (i := 564) (by decide +kernel), rfl⟩
theorem q565 : Cond.code yX6_word cX6_word 3 (some .int) ∈ gw_tbl := List.mem_filter.mpr ⟨List.mem_of_getElem? (i := 565) (by decide +kernel), rfl⟩
theorem q566 : Cond.methodLink RX6 173 yX3_wordAt ∈ gw_tbl := List.mem_filter.mpr ⟨List.mem_of_getElem? (i := 566) (by decide +kernel), rfl⟩
theorem q567 : Cond.instanceMethod yX3_wordAt ∈ gw_tbl := List.mem_filter.mpr ⟨List.mem_of_getElem? (i := 567) (by decide +kernel), rfl⟩
theorem q568 : Cond.selects RX3 yX3_wordAt yX3_wordAt ∈ gw_tbl := List.mem_filter.mpr ⟨List.mem_of_getElem? (i := 568) (by decide +kernel), rfl⟩
theorem q569 : Cond.code yX3_wordAt cX3_wordAt 2 (some .int) ∈ gw_tbl := List.mem_filter.mpr ⟨List.mem_of_getElem? (i := 569) (by decide +kernel), rfl⟩
theorem q570 : Cond.methodLink RX6 176 yX3_tagAt ∈ gw_tbl := List.mem_filter.mpr ⟨List.mem_of_getElem? (i := 570) (by decide +kernel), rfl⟩
theorem q571 : Cond.instanceMethod yX3_tagAt ∈ gw_tbl := List.mem_filter.mpr ⟨List.mem_of_getElem? (i := 571) (by decide +kernel), rfl⟩
theorem q572 : Cond.selects RX3 yX3_tagAt yX3_tagAt ∈ gw_tbl := List.mem_filter.mpr ⟨List.mem_of_getElem? (i := 572) (by decide +kernel), rfl⟩
theorem q573 : Cond.code yX3_tagAt cX3_tagAt 2 (some .int) ∈ gw_tbl := List.mem_filter.mpr ⟨List.mem_of_getElem? (i := 573) (by decide +kernel), rfl⟩
theorem q574 : Cond.methodLink RX6 179 yX6_readByStates ∈ gw_tbl := List.mem_filter.mpr ⟨List.mem_of_getElem? (i := 574) (by decide +kernel), rfl⟩
theorem q576 : Cond.instanceMethod yX6_readByStates ∈ gw_tbl := List.mem_filter.mpr ⟨List.mem_of_getElem? (i := 576) (by decide +kernel), rfl⟩
theorem q577 : Cond.code yX6_readByStates cX6_readByStates 6 (some .int) ∈ gw_tbl := List.mem_filter.mpr ⟨List.mem_of_getElem? (i := 577) (by decide +kernel), rfl⟩
theorem q578 : Cond.methodLink RX6 182 yX6_readByWindow ∈ gw_tbl := List.mem_filter.mpr ⟨List.mem_of_getElem? (i := 578) (by decide +kernel), rfl⟩
theorem q580 : Cond.instanceMethod yX6_readByWindow ∈ gw_tbl := List.mem_filter.mpr ⟨List.mem_of_getElem? (i := 580) (by decide +kernel), rfl⟩
theorem q581 : Cond.code yX6_readByWindow cX6_readByWindow 4 (some .int) ∈ gw_tbl := List.mem_filter.mpr ⟨List.mem_of_getElem? (i := 581) (by decide +kernel), rfl⟩
theorem q582 : Cond.methodLink RX6 219 yX0_follow ∈ gw_tbl := List.mem_filter.mpr ⟨List.mem_of_getElem? (i := 582) (by decide +kernel), rfl⟩
theorem q583 : Cond.instanceMethod yX0_follow ∈ gw_tbl := List.mem_filter.mpr ⟨List.mem_of_getElem? (i := 583) (by decide +kernel), rfl⟩
theorem q584 : Cond.selects RX0 yX0_follow yX0_follow ∈ gw_tbl := List.mem_filter.mpr ⟨List.mem_of_getElem? (i := 584) (by decide +kernel), rfl⟩
theorem q585 : Cond.code yX0_follow cX0_follow 7 (some .int) ∈ gw_tbl := List.mem_filter.mpr ⟨List.mem_of_getElem? (i := 585) (by decide +kernel), rfl⟩
theorem q586 : Cond.methodLink RL 65 yX6_wrong ∈ gw_tbl := List.mem_filter.mpr ⟨List.mem_of_getElem? (i := 586) (by decide +kernel), rfl⟩
theorem q587 : Cond.instanceMethod yX6_wrong ∈ gw_tbl := List.mem_filter.mpr ⟨List.mem_of_getElem? (i := 587) (by decide +kernel), rfl⟩
theorem q588 : Cond.selects RX6 yX6_wrong yX6_wrong ∈ gw_tbl := List.mem_filter.mpr ⟨List.mem_of_getElem? (i := 588) (by decide +kernel), rfl⟩
theorem q589 : Cond.code yX6_wrong cX6_wrong 5 (some .int) ∈ gw_tbl := List.mem_filter.mpr ⟨List.mem_of_getElem? (i := 589) (by decide +kernel), rfl⟩
theorem q590 : Cond.methodLink RL 69 yX6_sees ∈ gw_tbl := List.mem_filter.mpr ⟨List.mem_of_getElem? (i := 590) (by decide +kernel), rfl⟩
theorem q591 : Cond.instanceMethod yX6_sees ∈ gw_tbl := List.mem_filter.mpr ⟨List.mem_of_getElem? (i := 591) (by decide +kernel), rfl⟩
theorem q592 : Cond.selects RX6 yX6_sees yX6_sees ∈ gw_tbl := List.mem_filter.mpr ⟨List.mem_of_getElem? (i := 592) (by decide +kernel), rfl⟩
theorem q593 : Cond.code yX6_sees cX6_sees 2 (some .int) ∈ gw_tbl := List.mem_filter.mpr ⟨List.mem_of_getElem? (i := 593) (by decide +kernel), rfl⟩
theorem q594 : Cond.methodLink RL 73 yX6_forget ∈ gw_tbl := List.mem_filter.mpr ⟨List.mem_of_getElem? (i := 594) (by decide +kernel), rfl⟩
theorem q595 : Cond.instanceMethod yX6_forget ∈ gw_tbl := List.mem_filter.mpr ⟨List.mem_of_getElem? (i := 595) (by decide +kernel), rfl⟩
theorem q596 : Cond.selects RX6 yX6_forget yX6_forget ∈ gw_tbl := List.mem_filter.mpr ⟨List.mem_of_getElem? (i := 596) (by decide +kernel), rfl⟩
theorem q597 : Cond.code yX6_forget cX6_forget 2 (some .int) ∈ gw_tbl := List.mem_filter.mpr ⟨List.mem_of_getElem? (i := 597) (by decide +kernel), rfl⟩
theorem q598 : Cond.methodLink RL 77 yX6_which ∈ gw_tbl := List.mem_filter.mpr ⟨List.mem_of_getElem? (i := 598) (by decide +kernel), rfl⟩
theorem q599 : Cond.instanceMethod yX6_which ∈ gw_tbl := List.mem_filter.mpr ⟨List.mem_of_getElem? (i := 599) (by decide +kernel), rfl⟩
theorem q600 : Cond.selects RX6 yX6_which yX6_which ∈ gw_tbl := List.mem_filter.mpr ⟨List.mem_of_getElem? (i := 600) (by decide +kernel), rfl⟩
theorem q601 : Cond.code yX6_which cX6_which 2 (some .int) ∈ gw_tbl := List.mem_filter.mpr ⟨List.mem_of_getElem? (i := 601) (by decide +kernel), rfl⟩
theorem q602 : Cond.methodLink RX6 185 yX6_origins ∈ gw_tbl := List.mem_filter.mpr ⟨List.mem_of_getElem? (i := 602) (by decide +kernel), rfl⟩
theorem q604 : Cond.instanceMethod yX6_origins ∈ gw_tbl := List.mem_filter.mpr ⟨List.mem_of_getElem? (i := 604) (by decide +kernel), rfl⟩
theorem q605 : Cond.code yX6_origins cX6_origins 3 (some .int) ∈ gw_tbl := List.mem_filter.mpr ⟨List.mem_of_getElem? (i := 605) (by decide +kernel), rfl⟩
theorem q606 : Cond.methodLink RX6 223 yX6_endOfSeen ∈ gw_tbl := List.mem_filter.mpr ⟨List.mem_of_getElem? (i := 606) (by decide +kernel), rfl⟩
theorem q608 : Cond.instanceMethod yX6_endOfSeen ∈ gw_tbl := List.mem_filter.mpr ⟨List.mem_of_getElem? (i := 608) (by decide +kernel), rfl⟩
theorem q609 : Cond.code yX6_endOfSeen cX6_endOfSeen 2 (some .int) ∈ gw_tbl := List.mem_filter.mpr ⟨List.mem_of_getElem? (i := 609) (by decide +kernel), rfl⟩
theorem q610 : Cond.methodLink RX6 188 yX6_presentStates ∈ gw_tbl := List.mem_filter.mpr ⟨List.mem_of_getElem? (i := 610) (by decide +kernel), rfl⟩
theorem q612 : Cond.instanceMethod yX6_presentStates ∈ gw_tbl := List.mem_filter.mpr ⟨List.mem_of_getElem? (i := 612) (by decide +kernel), rfl⟩
theorem q613 : Cond.code yX6_presentStates cX6_presentStates 4 (some .int) ∈ gw_tbl := List.mem_filter.mpr ⟨List.mem_of_getElem? (i := 613) (by decide +kernel), rfl⟩
theorem q614 : Cond.methodLink RL 81 yX6_ask ∈ gw_tbl := List.mem_filter.mpr ⟨List.mem_of_getElem? (i := 614) (by decide +kernel), rfl⟩
theorem q615 : Cond.instanceMethod yX6_ask ∈ gw_tbl := List.mem_filter.mpr ⟨List.mem_of_getElem? (i := 615) (by decide +kernel), rfl⟩
theorem q616 : Cond.selects RX6 yX6_ask yX6_ask ∈ gw_tbl := List.mem_filter.mpr ⟨List.mem_of_getElem? (i := 616) (by decide +kernel), rfl⟩
theorem q617 : Cond.code yX6_ask cX6_ask 6 (some .int) ∈ gw_tbl := List.mem_filter.mpr ⟨List.mem_of_getElem? (i := 617) (by decide +kernel), rfl⟩
theorem q618 : Cond.methodLink RX6 191 yJ6_bitCount_0f7a4 ∈ gw_tbl := List.mem_filter.mpr ⟨List.mem_of_getElem? (i := 618) (by decide +kernel), rfl⟩
theorem q619 : Cond.static yJ6_bitCount_0f7a4 ∈ gw_tbl := List.mem_filter.mpr ⟨List.mem_of_getElem? (i := 619) (by decide +kernel), rfl⟩
theorem q620 : Cond.code yJ6_bitCount_0f7a4 cJ6_bitCount_0f7a4 1 (some .int) ∈ gw_tbl := List.mem_filter.mpr ⟨List.mem_of_getElem? (i := 620) (by decide +kernel), rfl⟩
theorem q621 : Cond.constant RJ6 265 (Int32.ofInt (1431655765)) ∈ gw_tbl := List.mem_filter.mpr ⟨List.mem_of_getElem? (i := 621) (by decide +kernel), rfl⟩
theorem q622 : Cond.constant RJ6 266 (Int32.ofInt (858993459)) ∈ gw_tbl := List.mem_filter.mpr ⟨List.mem_of_getElem? (i := 622) (by decide +kernel), rfl⟩
theorem q623 : Cond.constant RJ6 267 (Int32.ofInt (252645135)) ∈ gw_tbl := List.mem_filter.mpr ⟨List.mem_of_getElem? (i := 623) (by decide +kernel), rfl⟩
theorem q624 : Cond.methodLink RX6 196 yX0_mostAlike ∈ gw_tbl := List.mem_filter.mpr ⟨List.mem_of_getElem? (i := 624) (by decide +kernel), rfl⟩
theorem q625 : Cond.instanceMethod yX0_mostAlike ∈ gw_tbl := List.mem_filter.mpr ⟨List.mem_of_getElem? (i := 625) (by decide +kernel), rfl⟩
theorem q626 : Cond.selects RX0 yX0_mostAlike yX0_mostAlike ∈ gw_tbl := List.mem_filter.mpr ⟨List.mem_of_getElem? (i := 626) (by decide +kernel), rfl⟩
theorem q627 : Cond.code yX0_mostAlike cX0_mostAlike 5 (some .int) ∈ gw_tbl := List.mem_filter.mpr ⟨List.mem_of_getElem? (i := 627) (by decide +kernel), rfl⟩
theorem q628 : Cond.methodLink RX0 79 yX0_wordWith ∈ gw_tbl := List.mem_filter.mpr ⟨List.mem_of_getElem? (i := 628) (by decide +kernel), rfl⟩
theorem q629 : Cond.methodLink RX0 82 yX0_withWord ∈ gw_tbl := List.mem_filter.mpr ⟨List.mem_of_getElem? (i := 629) (by decide +kernel), rfl⟩
theorem q631 : Cond.instanceMethod yX0_withWord ∈ gw_tbl := List.mem_filter.mpr ⟨List.mem_of_getElem? (i := 631) (by decide +kernel), rfl⟩
theorem q632 : Cond.code yX0_withWord cX0_withWord 6 (some .int) ∈ gw_tbl := List.mem_filter.mpr ⟨List.mem_of_getElem? (i := 632) (by decide +kernel), rfl⟩
theorem q633 : Cond.methodLink RX0 86 Lib.Math.max.name ∈ gw_tbl := List.mem_filter.mpr ⟨List.mem_of_getElem? (i := 633) (by decide +kernel), rfl⟩
theorem q634 : Cond.methodLink RL 85 yX6_keep ∈ gw_tbl := List.mem_filter.mpr ⟨List.mem_of_getElem? (i := 634) (by decide +kernel), rfl⟩
theorem q635 : Cond.instanceMethod yX6_keep ∈ gw_tbl := List.mem_filter.mpr ⟨List.mem_of_getElem? (i := 635) (by decide +kernel), rfl⟩
theorem q636 : Cond.selects RX6 yX6_keep yX6_keep ∈ gw_tbl := List.mem_filter.mpr ⟨List.mem_of_getElem? (i := 636) (by decide +kernel), rfl⟩
theorem q637 : Cond.code yX6_keep cX6_keep 3 (some .int) ∈ gw_tbl := List.mem_filter.mpr ⟨List.mem_of_getElem? (i := 637) (by decide +kernel), rfl⟩
theorem q638 : Cond.methodLink RX6 199 yX6_isNoImage ∈ gw_tbl := List.mem_filter.mpr ⟨List.mem_of_getElem? (i := 638) (by decide +kernel), rfl⟩
theorem q639 : Cond.static yX6_isNoImage ∈ gw_tbl := List.mem_filter.mpr ⟨List.mem_of_getElem? (i := 639) (by decide +kernel), rfl⟩
theorem q640 : Cond.code yX6_isNoImage cX6_isNoImage 1 (some .boolean) ∈ gw_tbl := List.mem_filter.mpr ⟨List.mem_of_getElem? (i := 640) (by decide +kernel), rfl⟩
theorem q641 : Cond.methodLink RL 89 yX6_back ∈ gw_tbl := List.mem_filter.mpr ⟨List.mem_of_getElem? (i := 641) (by decide +kernel), rfl⟩
theorem q642 : Cond.instanceMethod yX6_back ∈ gw_tbl := List.mem_filter.mpr ⟨List.mem_of_getElem? (i := 642) (by decide +kernel), rfl⟩
theorem q643 : Cond.selects RX6 yX6_back yX6_back ∈ gw_tbl := List.mem_filter.mpr ⟨List.mem_of_getElem? (i := 643) (by decide +kernel), rfl⟩
theorem q644 : Cond.code yX6_back cX6_back 2 (some .int) ∈ gw_tbl := List.mem_filter.mpr ⟨List.mem_of_getElem? (i := 644) (by decide +kernel), rfl⟩
theorem q645 : Cond.methodLink RL 93 yX6_count ∈ gw_tbl := List.mem_filter.mpr ⟨List.mem_of_getElem? (i := 645) (by decide +kernel), rfl⟩
theorem q646 : Cond.instanceMethod yX6_count ∈ gw_tbl := List.mem_filter.mpr ⟨List.mem_of_getElem? (i := 646) (by decide +kernel), rfl⟩
theorem q647 : Cond.selects RX6 yX6_count yX6_count ∈ gw_tbl := List.mem_filter.mpr ⟨List.mem_of_getElem? (i := 647) (by decide +kernel), rfl⟩
theorem q648 : Cond.code yX6_count cX6_count 2 (some .int) ∈ gw_tbl := List.mem_filter.mpr ⟨List.mem_of_getElem? (i := 648) (by decide +kernel), rfl⟩
theorem q649 : Cond.methodLink RX6 204 yX1_start ∈ gw_tbl := List.mem_filter.mpr ⟨List.mem_of_getElem? (i := 649) (by decide +kernel), rfl⟩
theorem q650 : Cond.methodLink RX6 210 yX3_turnedBits ∈ gw_tbl := List.mem_filter.mpr ⟨List.mem_of_getElem? (i := 650) (by decide +kernel), rfl⟩
theorem q651 : Cond.instanceMethod yX3_turnedBits ∈ gw_tbl := List.mem_filter.mpr ⟨List.mem_of_getElem? (i := 651) (by decide +kernel), rfl⟩
theorem q652 : Cond.selects RX3 yX3_turnedBits yX3_turnedBits ∈ gw_tbl := List.mem_filter.mpr ⟨List.mem_of_getElem? (i := 652) (by decide +kernel), rfl⟩
theorem q653 : Cond.code yX3_turnedBits cX3_turnedBits 3 (some .int) ∈ gw_tbl := List.mem_filter.mpr ⟨List.mem_of_getElem? (i := 653) (by decide +kernel), rfl⟩
theorem q654 : Cond.methodLink RX3 34 yJ6_bitCount_0f7a4 ∈ gw_tbl := List.mem_filter.mpr ⟨List.mem_of_getElem? (i := 654) (by decide +kernel), rfl⟩
theorem q655 : Cond.classLink RL 10 RX7 ∈ gw_tbl := List.mem_filter.mpr ⟨List.mem_of_getElem? (i := 655) (by decide +kernel), rfl⟩
theorem q656 : Cond.instantiable RX7 22 ∈ gw_tbl := List.mem_filter.mpr ⟨List.mem_of_getElem? (i := 656) (by decide +kernel), rfl⟩
theorem q657 : Cond.methodLink RL 12 yX7_init ∈ gw_tbl := List.mem_filter.mpr ⟨List.mem_of_getElem? (i := 657) (by decide +kernel), rfl⟩
theorem q658 : Cond.instanceMethod yX7_init ∈ gw_tbl := List.mem_filter.mpr ⟨List.mem_of_getElem? (i := 658) (by decide +kernel), rfl⟩
theorem q659 : Cond.code yX7_init cX7_init 1 none ∈ gw_tbl := List.mem_filter.mpr ⟨List.mem_of_getElem? (i := 659) (by decide +kernel), rfl⟩
theorem q660 : Cond.methodLink RX7 1 Lib.objectInit ∈ gw_tbl := List.mem_filter.mpr ⟨List.mem_of_getElem? (i := 660) (by decide +kernel), rfl⟩
theorem q661 : Cond.methodLink RX7 53 yX7_begins ∈ gw_tbl := List.mem_filter.mpr ⟨List.mem_of_getElem? (i := 661) (by decide +kernel), rfl⟩
theorem q663 : Cond.instanceMethod yX7_begins ∈ gw_tbl := List.mem_filter.mpr ⟨List.mem_of_getElem? (i := 663) (by decide +kernel), rfl⟩
theorem q664 : Cond.code yX7_begins cX7_begins 1 none ∈ gw_tbl := List.mem_filter.mpr ⟨List.mem_of_getElem? (i := 664) (by decide +kernel), rfl⟩
theorem q665 : Cond.methodLink RX7 56 yX7_finds ∈ gw_tbl := List.mem_filter.mpr ⟨List.mem_of_getElem? (i := 665) (by decide +kernel), rfl⟩
theorem q667 : Cond.instanceMethod yX7_finds ∈ gw_tbl := List.mem_filter.mpr ⟨List.mem_of_getElem? (i := 667) (by decide +kernel), rfl⟩
theorem q668 : Cond.code yX7_finds cX7_finds 7 none ∈ gw_tbl := List.mem_filter.mpr ⟨List.mem_of_getElem? (i := 668) (by decide +kernel), rfl⟩
theorem q669 : Cond.methodLink RX7 95 yX7_layArcs ∈ gw_tbl := List.mem_filter.mpr ⟨List.mem_of_getElem? (i := 669) (by decide +kernel), rfl⟩
theorem q671 : Cond.instanceMethod yX7_layArcs ∈ gw_tbl := List.mem_filter.mpr ⟨List.mem_of_getElem? (i := 671) (by decide +kernel), rfl⟩
theorem q672 : Cond.code yX7_layArcs cX7_layArcs 5 none ∈ gw_tbl := List.mem_filter.mpr ⟨List.mem_of_getElem? (i := 672) (by decide +kernel), rfl⟩
theorem q673 : Cond.methodLink RX7 82 yX7_states ∈ gw_tbl := List.mem_filter.mpr ⟨List.mem_of_getElem? (i := 673) (by decide +kernel), rfl⟩
theorem q675 : Cond.instanceMethod yX7_states ∈ gw_tbl := List.mem_filter.mpr ⟨List.mem_of_getElem? (i := 675) (by decide +kernel), rfl⟩
theorem q676 : Cond.code yX7_states cX7_states 1 (some .int) ∈ gw_tbl := List.mem_filter.mpr ⟨List.mem_of_getElem? (i := 676) (by decide +kernel), rfl⟩
theorem q677 : Cond.methodLink RX7 78 yX7_words ∈ gw_tbl := List.mem_filter.mpr ⟨List.mem_of_getElem? (i := 677) (by decide +kernel), rfl⟩
theorem q679 : Cond.instanceMethod yX7_words ∈ gw_tbl := List.mem_filter.mpr ⟨List.mem_of_getElem? (i := 679) (by decide +kernel), rfl⟩
theorem q680 : Cond.code yX7_words cX7_words 1 (some .int) ∈ gw_tbl := List.mem_filter.mpr ⟨List.mem_of_getElem? (i := 680) (by decide +kernel), rfl⟩
theorem q681 : Cond.methodLink RX7 85 yX7_stepOf ∈ gw_tbl := List.mem_filter.mpr ⟨List.mem_of_getElem? (i := 681) (by decide +kernel), rfl⟩
theorem q683 : Cond.instanceMethod yX7_stepOf ∈ gw_tbl := List.mem_filter.mpr ⟨List.mem_of_getElem? (i := 683) (by decide +kernel), rfl⟩
theorem q684 : Cond.code yX7_stepOf cX7_stepOf 4 (some .int) ∈ gw_tbl := List.mem_filter.mpr ⟨List.mem_of_getElem? (i := 684) (by decide +kernel), rfl⟩
theorem q685 : Cond.methodLink RX7 70 yX7_in ∈ gw_tbl := List.mem_filter.mpr ⟨List.mem_of_getElem? (i := 685) (by decide +kernel), rfl⟩
theorem q686 : Cond.static yX7_in ∈ gw_tbl := List.mem_filter.mpr ⟨List.mem_of_getElem? (i := 686) (by decide +kernel), rfl⟩
theorem q687 : Cond.code yX7_in cX7_in 6 (some .boolean) ∈ gw_tbl := List.mem_filter.mpr ⟨List.mem_of_getElem? (i := 687) (by decide +kernel), rfl⟩
theorem q688 : Cond.methodLink RX7 74 yX7_border ∈ gw_tbl := List.mem_filter.mpr ⟨List.mem_of_getElem? (i := 688) (by decide +kernel), rfl⟩
theorem q690 : Cond.instanceMethod yX7_border ∈ gw_tbl := List.mem_filter.mpr ⟨List.mem_of_getElem? (i := 690) (by decide +kernel), rfl⟩
theorem q691 : Cond.code yX7_border cX7_border 7 (some .int) ∈ gw_tbl := List.mem_filter.mpr ⟨List.mem_of_getElem? (i := 691) (by decide +kernel), rfl⟩
theorem q692 : Cond.methodLink RX7 66 yX7_banned ∈ gw_tbl := List.mem_filter.mpr ⟨List.mem_of_getElem? (i := 692) (by decide +kernel), rfl⟩
theorem q694 : Cond.instanceMethod yX7_banned ∈ gw_tbl := List.mem_filter.mpr ⟨List.mem_of_getElem? (i := 694) (by decide +kernel), rfl⟩
theorem q695 : Cond.code yX7_banned cX7_banned 2 (some .int) ∈ gw_tbl := List.mem_filter.mpr ⟨List.mem_of_getElem? (i := 695) (by decide +kernel), rfl⟩
theorem q696 : Cond.methodLink RX7 98 yX7_goodArcs ∈ gw_tbl := List.mem_filter.mpr ⟨List.mem_of_getElem? (i := 696) (by decide +kernel), rfl⟩
theorem q698 : Cond.instanceMethod yX7_goodArcs ∈ gw_tbl := List.mem_filter.mpr ⟨List.mem_of_getElem? (i := 698) (by decide +kernel), rfl⟩
theorem q699 : Cond.code yX7_goodArcs cX7_goodArcs 5 (some .int) ∈ gw_tbl := List.mem_filter.mpr ⟨List.mem_of_getElem? (i := 699) (by decide +kernel), rfl⟩
theorem q700 : Cond.methodLink RX7 89 yX7_lead ∈ gw_tbl := List.mem_filter.mpr ⟨List.mem_of_getElem? (i := 700) (by decide +kernel), rfl⟩
theorem q702 : Cond.instanceMethod yX7_lead ∈ gw_tbl := List.mem_filter.mpr ⟨List.mem_of_getElem? (i := 702) (by decide +kernel), rfl⟩
theorem q703 : Cond.code yX7_lead cX7_lead 3 (some .int) ∈ gw_tbl := List.mem_filter.mpr ⟨List.mem_of_getElem? (i := 703) (by decide +kernel), rfl⟩
theorem q704 : Cond.fieldLink RX7 7 "BannedRowsModel" "all" "[I" ∈ gw_tbl := List.mem_filter.mpr ⟨List.mem_of_getElem? (i := 704) (by decide +kernel), rfl⟩
theorem q705 : Cond.fieldLink RX7 13 "BannedRowsModel" "past" "[I" ∈ gw_tbl := List.mem_filter.mpr ⟨List.mem_of_getElem? (i := 705) (by decide +kernel), rfl⟩
theorem q706 : Cond.fieldLink RX7 63 "BannedRowsModel" "undone" "I" ∈ gw_tbl := List.mem_filter.mpr ⟨List.mem_of_getElem? (i := 706) (by decide +kernel), rfl⟩
theorem q707 : Cond.fieldLink RX7 16 "BannedRowsModel" "images" "[I" ∈ gw_tbl := List.mem_filter.mpr ⟨List.mem_of_getElem? (i := 707) (by decide +kernel), rfl⟩
theorem q708 : Cond.fieldLink RX7 19 "BannedRowsModel" "kept" "[Z" ∈ gw_tbl := List.mem_filter.mpr ⟨List.mem_of_getElem? (i := 708) (by decide +kernel), rfl⟩
theorem q709 : Cond.fieldLink RX7 23 "BannedRowsModel" "seen" "[I" ∈ gw_tbl := List.mem_filter.mpr ⟨List.mem_of_getElem? (i := 709) (by decide +kernel), rfl⟩
theorem q710 : Cond.fieldLink RX7 143 "BannedRowsModel" "seenMany" "I" ∈ gw_tbl := List.mem_filter.mpr ⟨List.mem_of_getElem? (i := 710) (by decide +kernel), rfl⟩
theorem q711 : Cond.fieldLink RX7 26 "BannedRowsModel" "text" "[I" ∈ gw_tbl := List.mem_filter.mpr ⟨List.mem_of_getElem? (i := 711) (by decide +kernel), rfl⟩
theorem q712 : Cond.fieldLink RX7 103 "BannedRowsModel" "textLong" "I" ∈ gw_tbl := List.mem_filter.mpr ⟨List.mem_of_getElem? (i := 712) (by decide +kernel), rfl⟩
theorem q713 : Cond.fieldLink RX7 29 "BannedRowsModel" "leads" "[I" ∈ gw_tbl := List.mem_filter.mpr ⟨List.mem_of_getElem? (i := 713) (by decide +kernel), rfl⟩
theorem q714 : Cond.fieldLink RX7 32 "BannedRowsModel" "tags" "[I" ∈ gw_tbl := List.mem_filter.mpr ⟨List.mem_of_getElem? (i := 714) (by decide +kernel), rfl⟩
theorem q715 : Cond.fieldLink RX7 92 "BannedRowsModel" "good" "I" ∈ gw_tbl := List.mem_filter.mpr ⟨List.mem_of_getElem? (i := 715) (by decide +kernel), rfl⟩
theorem q716 : Cond.fieldLink RX7 59 "BannedRowsModel" "begin" "I" ∈ gw_tbl := List.mem_filter.mpr ⟨List.mem_of_getElem? (i := 716) (by decide +kernel), rfl⟩
theorem q717 : Cond.fieldLink RX7 106 "BannedRowsModel" "spot" "I" ∈ gw_tbl := List.mem_filter.mpr ⟨List.mem_of_getElem? (i := 717) (by decide +kernel), rfl⟩
theorem q718 : Cond.fieldLink RX7 120 "BannedRowsModel" "taken" "I" ∈ gw_tbl := List.mem_filter.mpr ⟨List.mem_of_getElem? (i := 718) (by decide +kernel), rfl⟩
theorem q719 : Cond.fieldLink RX7 35 "BannedRowsModel" "next" "[I" ∈ gw_tbl := List.mem_filter.mpr ⟨List.mem_of_getElem? (i := 719) (by decide +kernel), rfl⟩
theorem q720 : Cond.fieldLink RX7 38 "BannedRowsModel" "weights" "[I" ∈ gw_tbl := List.mem_filter.mpr ⟨List.mem_of_getElem? (i := 720) (by decide +kernel), rfl⟩
theorem q721 : Cond.fieldLink RX7 41 "BannedRowsModel" "lighter" "[I" ∈ gw_tbl := List.mem_filter.mpr ⟨List.mem_of_getElem? (i := 721) (by decide +kernel), rfl⟩
theorem q722 : Cond.fieldLink RX7 44 "BannedRowsModel" "ways" "[I" ∈ gw_tbl := List.mem_filter.mpr ⟨List.mem_of_getElem? (i := 722) (by decide +kernel), rfl⟩
theorem q723 : Cond.fieldLink RX7 47 "BannedRowsModel" "nextWays" "[I" ∈ gw_tbl := List.mem_filter.mpr ⟨List.mem_of_getElem? (i := 723) (by decide +kernel), rfl⟩
theorem q724 : Cond.fieldLink RX7 50 "BannedRowsModel" "alike" "[Z" ∈ gw_tbl := List.mem_filter.mpr ⟨List.mem_of_getElem? (i := 724) (by decide +kernel), rfl⟩
theorem q770 : Cond.methodLink RL 17 yX7_type ∈ gw_tbl := List.mem_filter.mpr ⟨List.mem_of_getElem? (i := 770) (by decide +kernel), rfl⟩
theorem q771 : Cond.instanceMethod yX7_type ∈ gw_tbl := List.mem_filter.mpr ⟨List.mem_of_getElem? (i := 771) (by decide +kernel), rfl⟩
theorem q772 : Cond.selects RX7 yX7_type yX7_type ∈ gw_tbl := List.mem_filter.mpr ⟨List.mem_of_getElem? (i := 772) (by decide +kernel), rfl⟩
theorem q773 : Cond.code yX7_type cX7_type 2 (some .int) ∈ gw_tbl := List.mem_filter.mpr ⟨List.mem_of_getElem? (i := 773) (by decide +kernel), rfl⟩
theorem q774 : Cond.constantLong RX7 101 (Int64.ofInt (255)) ∈ gw_tbl := List.mem_filter.mpr ⟨List.mem_of_getElem? (i := 774) (by decide +kernel), rfl⟩
theorem q775 : Cond.methodLink RL 22 yX7_clear ∈ gw_tbl := List.mem_filter.mpr ⟨List.mem_of_getElem? (i := 775) (by decide +kernel), rfl⟩
theorem q776 : Cond.instanceMethod yX7_clear ∈ gw_tbl := List.mem_filter.mpr ⟨List.mem_of_getElem? (i := 776) (by decide +kernel), rfl⟩
theorem q777 : Cond.selects RX7 yX7_clear yX7_clear ∈ gw_tbl := List.mem_filter.mpr ⟨List.mem_of_getElem? (i := 777) (by decide +kernel), rfl⟩
theorem q778 : Cond.code yX7_clear cX7_clear 2 (some .int) ∈ gw_tbl := List.mem_filter.mpr ⟨List.mem_of_getElem? (i := 778) (by decide +kernel), rfl⟩
theorem q779 : Cond.methodLink RL 26 yX7_tells ∈ gw_tbl := List.mem_filter.mpr ⟨List.mem_of_getElem? (i := 779) (by decide +kernel), rfl⟩
theorem q780 : Cond.instanceMethod yX7_tells ∈ gw_tbl := List.mem_filter.mpr ⟨List.mem_of_getElem? (i := 780) (by decide +kernel), rfl⟩
theorem q781 : Cond.selects RX7 yX7_tells yX7_tells ∈ gw_tbl := List.mem_filter.mpr ⟨List.mem_of_getElem? (i := 781) (by decide +kernel), rfl⟩
theorem q782 : Cond.code yX7_tells cX7_tells 2 (some .int) ∈ gw_tbl := List.mem_filter.mpr ⟨List.mem_of_getElem? (i := 782) (by decide +kernel), rfl⟩
theorem q783 : Cond.methodLink RX7 137 yX7_takesAll ∈ gw_tbl := List.mem_filter.mpr ⟨List.mem_of_getElem? (i := 783) (by decide +kernel), rfl⟩
theorem q785 : Cond.instanceMethod yX7_takesAll ∈ gw_tbl := List.mem_filter.mpr ⟨List.mem_of_getElem? (i := 785) (by decide +kernel), rfl⟩
theorem q786 : Cond.code yX7_takesAll cX7_takesAll 3 (some .boolean) ∈ gw_tbl := List.mem_filter.mpr ⟨List.mem_of_getElem? (i := 786) (by decide +kernel), rfl⟩
theorem q787 : Cond.methodLink RX7 134 yX7_takesBan ∈ gw_tbl := List.mem_filter.mpr ⟨List.mem_of_getElem? (i := 787) (by decide +kernel), rfl⟩
theorem q789 : Cond.instanceMethod yX7_takesBan ∈ gw_tbl := List.mem_filter.mpr ⟨List.mem_of_getElem? (i := 789) (by decide +kernel), rfl⟩
theorem q790 : Cond.code yX7_takesBan cX7_takesBan 1 (some .boolean) ∈ gw_tbl := List.mem_filter.mpr ⟨List.mem_of_getElem? (i := 790) (by decide +kernel), rfl⟩
theorem q791 : Cond.methodLink RX7 123 yX7_takes ∈ gw_tbl := List.mem_filter.mpr ⟨List.mem_of_getElem? (i := 791) (by decide +kernel), rfl⟩
theorem q793 : Cond.instanceMethod yX7_takes ∈ gw_tbl := List.mem_filter.mpr ⟨List.mem_of_getElem? (i := 793) (by decide +kernel), rfl⟩
theorem q794 : Cond.code yX7_takes cX7_takes 2 (some .boolean) ∈ gw_tbl := List.mem_filter.mpr ⟨List.mem_of_getElem? (i := 794) (by decide +kernel), rfl⟩
theorem q795 : Cond.methodLink RX7 113 yX7_here ∈ gw_tbl := List.mem_filter.mpr ⟨List.mem_of_getElem? (i := 795) (by decide +kernel), rfl⟩
theorem q797 : Cond.instanceMethod yX7_here ∈ gw_tbl := List.mem_filter.mpr ⟨List.mem_of_getElem? (i := 797) (by decide +kernel), rfl⟩
theorem q798 : Cond.code yX7_here cX7_here 1 (some .int) ∈ gw_tbl := List.mem_filter.mpr ⟨List.mem_of_getElem? (i := 798) (by decide +kernel), rfl⟩
theorem q799 : Cond.methodLink RX7 126 yX7_takesNumber ∈ gw_tbl := List.mem_filter.mpr ⟨List.mem_of_getElem? (i := 799) (by decide +kernel), rfl⟩
theorem q801 : Cond.instanceMethod yX7_takesNumber ∈ gw_tbl := List.mem_filter.mpr ⟨List.mem_of_getElem? (i := 801) (by decide +kernel), rfl⟩
theorem q802 : Cond.code yX7_takesNumber cX7_takesNumber 4 (some .boolean) ∈ gw_tbl := List.mem_filter.mpr ⟨List.mem_of_getElem? (i := 802) (by decide +kernel), rfl⟩
theorem q803 : Cond.methodLink RX7 116 yX7_isFigure ∈ gw_tbl := List.mem_filter.mpr ⟨List.mem_of_getElem? (i := 803) (by decide +kernel), rfl⟩
theorem q805 : Cond.instanceMethod yX7_isFigure ∈ gw_tbl := List.mem_filter.mpr ⟨List.mem_of_getElem? (i := 805) (by decide +kernel), rfl⟩
theorem q806 : Cond.code yX7_isFigure cX7_isFigure 2 (some .boolean) ∈ gw_tbl := List.mem_filter.mpr ⟨List.mem_of_getElem? (i := 806) (by decide +kernel), rfl⟩
theorem q807 : Cond.constantLong RX7 109 (Int64.ofInt (48)) ∈ gw_tbl := List.mem_filter.mpr ⟨List.mem_of_getElem? (i := 807) (by decide +kernel), rfl⟩
theorem q808 : Cond.constantLong RX7 111 (Int64.ofInt (57)) ∈ gw_tbl := List.mem_filter.mpr ⟨List.mem_of_getElem? (i := 808) (by decide +kernel), rfl⟩
theorem q809 : Cond.methodLink RX7 130 yX7_takesBits ∈ gw_tbl := List.mem_filter.mpr ⟨List.mem_of_getElem? (i := 809) (by decide +kernel), rfl⟩
theorem q811 : Cond.instanceMethod yX7_takesBits ∈ gw_tbl := List.mem_filter.mpr ⟨List.mem_of_getElem? (i := 811) (by decide +kernel), rfl⟩
theorem q812 : Cond.code yX7_takesBits cX7_takesBits 5 (some .boolean) ∈ gw_tbl := List.mem_filter.mpr ⟨List.mem_of_getElem? (i := 812) (by decide +kernel), rfl⟩
theorem q813 : Cond.methodLink RX7 140 yX7_keepPast ∈ gw_tbl := List.mem_filter.mpr ⟨List.mem_of_getElem? (i := 813) (by decide +kernel), rfl⟩
theorem q815 : Cond.instanceMethod yX7_keepPast ∈ gw_tbl := List.mem_filter.mpr ⟨List.mem_of_getElem? (i := 815) (by decide +kernel), rfl⟩
theorem q816 : Cond.code yX7_keepPast cX7_keepPast 2 none ∈ gw_tbl := List.mem_filter.mpr ⟨List.mem_of_getElem? (i := 816) (by decide +kernel), rfl⟩
theorem q817 : Cond.methodLink RL 30 yX7_sends ∈ gw_tbl := List.mem_filter.mpr ⟨List.mem_of_getElem? (i := 817) (by decide +kernel), rfl⟩
theorem q818 : Cond.instanceMethod yX7_sends ∈ gw_tbl := List.mem_filter.mpr ⟨List.mem_of_getElem? (i := 818) (by decide +kernel), rfl⟩
theorem q819 : Cond.selects RX7 yX7_sends yX7_sends ∈ gw_tbl := List.mem_filter.mpr ⟨List.mem_of_getElem? (i := 819) (by decide +kernel), rfl⟩
theorem q820 : Cond.code yX7_sends cX7_sends 4 (some .int) ∈ gw_tbl := List.mem_filter.mpr ⟨List.mem_of_getElem? (i := 820) (by decide +kernel), rfl⟩
theorem q821 : Cond.methodLink RX7 146 yX7_wordFor ∈ gw_tbl := List.mem_filter.mpr ⟨List.mem_of_getElem? (i := 821) (by decide +kernel), rfl⟩
theorem q823 : Cond.instanceMethod yX7_wordFor ∈ gw_tbl := List.mem_filter.mpr ⟨List.mem_of_getElem? (i := 823) (by decide +kernel), rfl⟩
theorem q824 : Cond.code yX7_wordFor cX7_wordFor 5 (some .int) ∈ gw_tbl := List.mem_filter.mpr ⟨List.mem_of_getElem? (i := 824) (by decide +kernel), rfl⟩
theorem q825 : Cond.methodLink RX7 149 yX7_tag ∈ gw_tbl := List.mem_filter.mpr ⟨List.mem_of_getElem? (i := 825) (by decide +kernel), rfl⟩
theorem q827 : Cond.instanceMethod yX7_tag ∈ gw_tbl := List.mem_filter.mpr ⟨List.mem_of_getElem? (i := 827) (by decide +kernel), rfl⟩
theorem q828 : Cond.code yX7_tag cX7_tag 3 (some .int) ∈ gw_tbl := List.mem_filter.mpr ⟨List.mem_of_getElem? (i := 828) (by decide +kernel), rfl⟩
theorem q829 : Cond.methodLink RL 34 yX7_flips ∈ gw_tbl := List.mem_filter.mpr ⟨List.mem_of_getElem? (i := 829) (by decide +kernel), rfl⟩
theorem q830 : Cond.instanceMethod yX7_flips ∈ gw_tbl := List.mem_filter.mpr ⟨List.mem_of_getElem? (i := 830) (by decide +kernel), rfl⟩
theorem q831 : Cond.selects RX7 yX7_flips yX7_flips ∈ gw_tbl := List.mem_filter.mpr ⟨List.mem_of_getElem? (i := 831) (by decide +kernel), rfl⟩
theorem q832 : Cond.code yX7_flips cX7_flips 4 (some .int) ∈ gw_tbl := List.mem_filter.mpr ⟨List.mem_of_getElem? (i := 832) (by decide +kernel), rfl⟩
theorem q833 : Cond.methodLink RL 38 yX7_undo ∈ gw_tbl := List.mem_filter.mpr ⟨List.mem_of_getElem? (i := 833) (by decide +kernel), rfl⟩
theorem q834 : Cond.instanceMethod yX7_undo ∈ gw_tbl := List.mem_filter.mpr ⟨List.mem_of_getElem? (i := 834) (by decide +kernel), rfl⟩
theorem q835 : Cond.selects RX7 yX7_undo yX7_undo ∈ gw_tbl := List.mem_filter.mpr ⟨List.mem_of_getElem? (i := 835) (by decide +kernel), rfl⟩
theorem q836 : Cond.code yX7_undo cX7_undo 2 (some .int) ∈ gw_tbl := List.mem_filter.mpr ⟨List.mem_of_getElem? (i := 836) (by decide +kernel), rfl⟩
theorem q837 : Cond.methodLink RL 43 yX7_step ∈ gw_tbl := List.mem_filter.mpr ⟨List.mem_of_getElem? (i := 837) (by decide +kernel), rfl⟩
theorem q838 : Cond.instanceMethod yX7_step ∈ gw_tbl := List.mem_filter.mpr ⟨List.mem_of_getElem? (i := 838) (by decide +kernel), rfl⟩
theorem q839 : Cond.selects RX7 yX7_step yX7_step ∈ gw_tbl := List.mem_filter.mpr ⟨List.mem_of_getElem? (i := 839) (by decide +kernel), rfl⟩
theorem q840 : Cond.code yX7_step cX7_step 3 (some .int) ∈ gw_tbl := List.mem_filter.mpr ⟨List.mem_of_getElem? (i := 840) (by decide +kernel), rfl⟩
theorem q841 : Cond.methodLink RX7 152 yX7_isState ∈ gw_tbl := List.mem_filter.mpr ⟨List.mem_of_getElem? (i := 841) (by decide +kernel), rfl⟩
theorem q843 : Cond.instanceMethod yX7_isState ∈ gw_tbl := List.mem_filter.mpr ⟨List.mem_of_getElem? (i := 843) (by decide +kernel), rfl⟩
theorem q844 : Cond.code yX7_isState cX7_isState 2 (some .boolean) ∈ gw_tbl := List.mem_filter.mpr ⟨List.mem_of_getElem? (i := 844) (by decide +kernel), rfl⟩
theorem q845 : Cond.methodLink RL 48 yX7_arc ∈ gw_tbl := List.mem_filter.mpr ⟨List.mem_of_getElem? (i := 845) (by decide +kernel), rfl⟩
theorem q846 : Cond.instanceMethod yX7_arc ∈ gw_tbl := List.mem_filter.mpr ⟨List.mem_of_getElem? (i := 846) (by decide +kernel), rfl⟩
theorem q847 : Cond.selects RX7 yX7_arc yX7_arc ∈ gw_tbl := List.mem_filter.mpr ⟨List.mem_of_getElem? (i := 847) (by decide +kernel), rfl⟩
theorem q848 : Cond.code yX7_arc cX7_arc 4 (some .int) ∈ gw_tbl := List.mem_filter.mpr ⟨List.mem_of_getElem? (i := 848) (by decide +kernel), rfl⟩
theorem q849 : Cond.methodLink RL 52 yX7_state ∈ gw_tbl := List.mem_filter.mpr ⟨List.mem_of_getElem? (i := 849) (by decide +kernel), rfl⟩
theorem q850 : Cond.instanceMethod yX7_state ∈ gw_tbl := List.mem_filter.mpr ⟨List.mem_of_getElem? (i := 850) (by decide +kernel), rfl⟩
theorem q851 : Cond.selects RX7 yX7_state yX7_state ∈ gw_tbl := List.mem_filter.mpr ⟨List.mem_of_getElem? (i := 851) (by decide +kernel), rfl⟩
theorem q852 : Cond.code yX7_state cX7_state 5 (some .int) ∈ gw_tbl := List.mem_filter.mpr ⟨List.mem_of_getElem? (i := 852) (by decide +kernel), rfl⟩
theorem q853 : Cond.methodLink RL 56 yX7_weight ∈ gw_tbl := List.mem_filter.mpr ⟨List.mem_of_getElem? (i := 853) (by decide +kernel), rfl⟩
theorem q854 : Cond.instanceMethod yX7_weight ∈ gw_tbl := List.mem_filter.mpr ⟨List.mem_of_getElem? (i := 854) (by decide +kernel), rfl⟩
theorem q855 : Cond.selects RX7 yX7_weight yX7_weight ∈ gw_tbl := List.mem_filter.mpr ⟨List.mem_of_getElem? (i := 855) (by decide +kernel), rfl⟩
theorem q856 : Cond.code yX7_weight cX7_weight 6 (some .int) ∈ gw_tbl := List.mem_filter.mpr ⟨List.mem_of_getElem? (i := 856) (by decide +kernel), rfl⟩
theorem q857 : Cond.constantLong RX7 155 (Int64.ofInt (9)) ∈ gw_tbl := List.mem_filter.mpr ⟨List.mem_of_getElem? (i := 857) (by decide +kernel), rfl⟩
theorem q858 : Cond.methodLink RX7 157 yX7_weighs ∈ gw_tbl := List.mem_filter.mpr ⟨List.mem_of_getElem? (i := 858) (by decide +kernel), rfl⟩
theorem q860 : Cond.instanceMethod yX7_weighs ∈ gw_tbl := List.mem_filter.mpr ⟨List.mem_of_getElem? (i := 860) (by decide +kernel), rfl⟩
theorem q861 : Cond.code yX7_weighs cX7_weighs 6 none ∈ gw_tbl := List.mem_filter.mpr ⟨List.mem_of_getElem? (i := 861) (by decide +kernel), rfl⟩
theorem q862 : Cond.methodLink RL 60 yX7_rows ∈ gw_tbl := List.mem_filter.mpr ⟨List.mem_of_getElem? (i := 862) (by decide +kernel), rfl⟩
theorem q863 : Cond.instanceMethod yX7_rows ∈ gw_tbl := List.mem_filter.mpr ⟨List.mem_of_getElem? (i := 863) (by decide +kernel), rfl⟩
theorem q864 : Cond.selects RX7 yX7_rows yX7_rows ∈ gw_tbl := List.mem_filter.mpr ⟨List.mem_of_getElem? (i := 864) (by decide +kernel), rfl⟩
theorem q865 : Cond.code yX7_rows cX7_rows 5 (some .int) ∈ gw_tbl := List.mem_filter.mpr ⟨List.mem_of_getElem? (i := 865) (by decide +kernel), rfl⟩
theorem q866 : Cond.constantLong RX7 161 (Int64.ofInt (20)) ∈ gw_tbl := List.mem_filter.mpr ⟨List.mem_of_getElem? (i := 866) (by decide +kernel), rfl⟩
theorem q867 : Cond.methodLink RX7 163 yX7_start ∈ gw_tbl := List.mem_filter.mpr ⟨List.mem_of_getElem? (i := 867) (by decide +kernel), rfl⟩
theorem q869 : Cond.instanceMethod yX7_start ∈ gw_tbl := List.mem_filter.mpr ⟨List.mem_of_getElem? (i := 869) (by decide +kernel), rfl⟩
theorem q870 : Cond.code yX7_start cX7_start 1 (some .int) ∈ gw_tbl := List.mem_filter.mpr ⟨List.mem_of_getElem? (i := 870) (by decide +kernel), rfl⟩
theorem q871 : Cond.methodLink RL 64 yX7_word ∈ gw_tbl := List.mem_filter.mpr ⟨List.mem_of_getElem? (i := 871) (by decide +kernel), rfl⟩
theorem q872 : Cond.instanceMethod yX7_word ∈ gw_tbl := List.mem_filter.mpr ⟨List.mem_of_getElem? (i := 872) (by decide +kernel), rfl⟩
theorem q873 : Cond.selects RX7 yX7_word yX7_word ∈ gw_tbl := List.mem_filter.mpr ⟨List.mem_of_getElem? (i := 873) (by decide +kernel), rfl⟩
theorem q874 : Cond.code yX7_word cX7_word 3 (some .int) ∈ gw_tbl := List.mem_filter.mpr ⟨List.mem_of_getElem? (i := 874) (by decide +kernel), rfl⟩
theorem q875 : Cond.constantLong RX7 179 (Int64.ofInt (3)) ∈ gw_tbl := List.mem_filter.mpr ⟨List.mem_of_getElem? (i := 875) (by decide +kernel), rfl⟩
theorem q876 : Cond.methodLink RX7 181 yX7_byStates ∈ gw_tbl := List.mem_filter.mpr ⟨List.mem_of_getElem? (i := 876) (by decide +kernel), rfl⟩
theorem q878 : Cond.instanceMethod yX7_byStates ∈ gw_tbl := List.mem_filter.mpr ⟨List.mem_of_getElem? (i := 878) (by decide +kernel), rfl⟩
theorem q879 : Cond.code yX7_byStates cX7_byStates 5 (some .int) ∈ gw_tbl := List.mem_filter.mpr ⟨List.mem_of_getElem? (i := 879) (by decide +kernel), rfl⟩
theorem q880 : Cond.methodLink RX7 184 yX7_byWindow ∈ gw_tbl := List.mem_filter.mpr ⟨List.mem_of_getElem? (i := 880) (by decide +kernel), rfl⟩
theorem q882 : Cond.instanceMethod yX7_byWindow ∈ gw_tbl := List.mem_filter.mpr ⟨List.mem_of_getElem? (i := 882) (by decide +kernel), rfl⟩
theorem q883 : Cond.code yX7_byWindow cX7_byWindow 7 (some .int) ∈ gw_tbl := List.mem_filter.mpr ⟨List.mem_of_getElem? (i := 883) (by decide +kernel), rfl⟩
theorem q884 : Cond.methodLink RX7 176 yX7_window ∈ gw_tbl := List.mem_filter.mpr ⟨List.mem_of_getElem? (i := 884) (by decide +kernel), rfl⟩
theorem q886 : Cond.instanceMethod yX7_window ∈ gw_tbl := List.mem_filter.mpr ⟨List.mem_of_getElem? (i := 886) (by decide +kernel), rfl⟩
theorem q887 : Cond.code yX7_window cX7_window 2 (some .int) ∈ gw_tbl := List.mem_filter.mpr ⟨List.mem_of_getElem? (i := 887) (by decide +kernel), rfl⟩
theorem q888 : Cond.methodLink RX7 170 yX7_layAlike ∈ gw_tbl := List.mem_filter.mpr ⟨List.mem_of_getElem? (i := 888) (by decide +kernel), rfl⟩
theorem q890 : Cond.instanceMethod yX7_layAlike ∈ gw_tbl := List.mem_filter.mpr ⟨List.mem_of_getElem? (i := 890) (by decide +kernel), rfl⟩
theorem q891 : Cond.code yX7_layAlike cX7_layAlike 7 none ∈ gw_tbl := List.mem_filter.mpr ⟨List.mem_of_getElem? (i := 891) (by decide +kernel), rfl⟩
theorem q892 : Cond.methodLink RX7 166 yX7_goOn ∈ gw_tbl := List.mem_filter.mpr ⟨List.mem_of_getElem? (i := 892) (by decide +kernel), rfl⟩
theorem q894 : Cond.instanceMethod yX7_goOn ∈ gw_tbl := List.mem_filter.mpr ⟨List.mem_of_getElem? (i := 894) (by decide +kernel), rfl⟩
theorem q895 : Cond.code yX7_goOn cX7_goOn 6 (some .boolean) ∈ gw_tbl := List.mem_filter.mpr ⟨List.mem_of_getElem? (i := 895) (by decide +kernel), rfl⟩
theorem q896 : Cond.methodLink RX7 173 yX7_isWide ∈ gw_tbl := List.mem_filter.mpr ⟨List.mem_of_getElem? (i := 896) (by decide +kernel), rfl⟩
theorem q898 : Cond.instanceMethod yX7_isWide ∈ gw_tbl := List.mem_filter.mpr ⟨List.mem_of_getElem? (i := 898) (by decide +kernel), rfl⟩
theorem q899 : Cond.code yX7_isWide cX7_isWide 5 (some .boolean) ∈ gw_tbl := List.mem_filter.mpr ⟨List.mem_of_getElem? (i := 899) (by decide +kernel), rfl⟩
theorem q900 : Cond.methodLink RL 68 yX7_wrong ∈ gw_tbl := List.mem_filter.mpr ⟨List.mem_of_getElem? (i := 900) (by decide +kernel), rfl⟩
theorem q901 : Cond.instanceMethod yX7_wrong ∈ gw_tbl := List.mem_filter.mpr ⟨List.mem_of_getElem? (i := 901) (by decide +kernel), rfl⟩
theorem q902 : Cond.selects RX7 yX7_wrong yX7_wrong ∈ gw_tbl := List.mem_filter.mpr ⟨List.mem_of_getElem? (i := 902) (by decide +kernel), rfl⟩
theorem q903 : Cond.code yX7_wrong cX7_wrong 4 (some .int) ∈ gw_tbl := List.mem_filter.mpr ⟨List.mem_of_getElem? (i := 903) (by decide +kernel), rfl⟩
theorem q904 : Cond.methodLink RL 72 yX7_sees ∈ gw_tbl := List.mem_filter.mpr ⟨List.mem_of_getElem? (i := 904) (by decide +kernel), rfl⟩
theorem q905 : Cond.instanceMethod yX7_sees ∈ gw_tbl := List.mem_filter.mpr ⟨List.mem_of_getElem? (i := 905) (by decide +kernel), rfl⟩
theorem q906 : Cond.selects RX7 yX7_sees yX7_sees ∈ gw_tbl := List.mem_filter.mpr ⟨List.mem_of_getElem? (i := 906) (by decide +kernel), rfl⟩
theorem q907 : Cond.code yX7_sees cX7_sees 2 (some .int) ∈ gw_tbl := List.mem_filter.mpr ⟨List.mem_of_getElem? (i := 907) (by decide +kernel), rfl⟩
theorem q908 : Cond.methodLink RL 76 yX7_forget ∈ gw_tbl := List.mem_filter.mpr ⟨List.mem_of_getElem? (i := 908) (by decide +kernel), rfl⟩
theorem q909 : Cond.instanceMethod yX7_forget ∈ gw_tbl := List.mem_filter.mpr ⟨List.mem_of_getElem? (i := 909) (by decide +kernel), rfl⟩
theorem q910 : Cond.selects RX7 yX7_forget yX7_forget ∈ gw_tbl := List.mem_filter.mpr ⟨List.mem_of_getElem? (i := 910) (by decide +kernel), rfl⟩
theorem q911 : Cond.code yX7_forget cX7_forget 2 (some .int) ∈ gw_tbl := List.mem_filter.mpr ⟨List.mem_of_getElem? (i := 911) (by decide +kernel), rfl⟩
theorem q912 : Cond.methodLink RL 80 yX7_which ∈ gw_tbl := List.mem_filter.mpr ⟨List.mem_of_getElem? (i := 912) (by decide +kernel), rfl⟩
theorem q913 : Cond.instanceMethod yX7_which ∈ gw_tbl := List.mem_filter.mpr ⟨List.mem_of_getElem? (i := 913) (by decide +kernel), rfl⟩
theorem q914 : Cond.selects RX7 yX7_which yX7_which ∈ gw_tbl := List.mem_filter.mpr ⟨List.mem_of_getElem? (i := 914) (by decide +kernel), rfl⟩
theorem q915 : Cond.code yX7_which cX7_which 2 (some .int) ∈ gw_tbl := List.mem_filter.mpr ⟨List.mem_of_getElem? (i := 915) (by decide +kernel), rfl⟩
theorem q916 : Cond.methodLink RX7 187 yX7_statesBySeen ∈ gw_tbl := List.mem_filter.mpr ⟨List.mem_of_getElem? (i := 916) (by decide +kernel), rfl⟩
theorem q918 : Cond.instanceMethod yX7_statesBySeen ∈ gw_tbl := List.mem_filter.mpr ⟨List.mem_of_getElem? (i := 918) (by decide +kernel), rfl⟩
theorem q919 : Cond.code yX7_statesBySeen cX7_statesBySeen 6 (some .int) ∈ gw_tbl := List.mem_filter.mpr ⟨List.mem_of_getElem? (i := 919) (by decide +kernel), rfl⟩
theorem q920 : Cond.methodLink RL 84 yX7_ask ∈ gw_tbl := List.mem_filter.mpr ⟨List.mem_of_getElem? (i := 920) (by decide +kernel), rfl⟩
theorem q921 : Cond.instanceMethod yX7_ask ∈ gw_tbl := List.mem_filter.mpr ⟨List.mem_of_getElem? (i := 921) (by decide +kernel), rfl⟩
theorem q922 : Cond.selects RX7 yX7_ask yX7_ask ∈ gw_tbl := List.mem_filter.mpr ⟨List.mem_of_getElem? (i := 922) (by decide +kernel), rfl⟩
theorem q923 : Cond.code yX7_ask cX7_ask 9 (some .int) ∈ gw_tbl := List.mem_filter.mpr ⟨List.mem_of_getElem? (i := 923) (by decide +kernel), rfl⟩
theorem q924 : Cond.methodLink RL 88 yX7_keep ∈ gw_tbl := List.mem_filter.mpr ⟨List.mem_of_getElem? (i := 924) (by decide +kernel), rfl⟩
theorem q925 : Cond.instanceMethod yX7_keep ∈ gw_tbl := List.mem_filter.mpr ⟨List.mem_of_getElem? (i := 925) (by decide +kernel), rfl⟩
theorem q926 : Cond.selects RX7 yX7_keep yX7_keep ∈ gw_tbl := List.mem_filter.mpr ⟨List.mem_of_getElem? (i := 926) (by decide +kernel), rfl⟩
theorem q927 : Cond.code yX7_keep cX7_keep 3 (some .int) ∈ gw_tbl := List.mem_filter.mpr ⟨List.mem_of_getElem? (i := 927) (by decide +kernel), rfl⟩
theorem q928 : Cond.methodLink RL 92 yX7_back ∈ gw_tbl := List.mem_filter.mpr ⟨List.mem_of_getElem? (i := 928) (by decide +kernel), rfl⟩
theorem q929 : Cond.instanceMethod yX7_back ∈ gw_tbl := List.mem_filter.mpr ⟨List.mem_of_getElem? (i := 929) (by decide +kernel), rfl⟩
theorem q930 : Cond.selects RX7 yX7_back yX7_back ∈ gw_tbl := List.mem_filter.mpr ⟨List.mem_of_getElem? (i := 930) (by decide +kernel), rfl⟩
theorem q931 : Cond.code yX7_back cX7_back 3 (some .int) ∈ gw_tbl := List.mem_filter.mpr ⟨List.mem_of_getElem? (i := 931) (by decide +kernel), rfl⟩
theorem q932 : Cond.methodLink RL 96 yX7_count ∈ gw_tbl := List.mem_filter.mpr ⟨List.mem_of_getElem? (i := 932) (by decide +kernel), rfl⟩
theorem q933 : Cond.instanceMethod yX7_count ∈ gw_tbl := List.mem_filter.mpr ⟨List.mem_of_getElem? (i := 933) (by decide +kernel), rfl⟩
theorem q934 : Cond.selects RX7 yX7_count yX7_count ∈ gw_tbl := List.mem_filter.mpr ⟨List.mem_of_getElem? (i := 934) (by decide +kernel), rfl⟩
theorem q935 : Cond.code yX7_count cX7_count 2 (some .int) ∈ gw_tbl := List.mem_filter.mpr ⟨List.mem_of_getElem? (i := 935) (by decide +kernel), rfl⟩
theorem q936 : Cond.constantLong RX7 191 (Int64.ofInt (12)) ∈ gw_tbl := List.mem_filter.mpr ⟨List.mem_of_getElem? (i := 936) (by decide +kernel), rfl⟩
theorem q937 : Cond.methodLink RX7 193 yX7_otherBits ∈ gw_tbl := List.mem_filter.mpr ⟨List.mem_of_getElem? (i := 937) (by decide +kernel), rfl⟩
theorem q939 : Cond.instanceMethod yX7_otherBits ∈ gw_tbl := List.mem_filter.mpr ⟨List.mem_of_getElem? (i := 939) (by decide +kernel), rfl⟩
theorem q940 : Cond.code yX7_otherBits cX7_otherBits 4 (some .int) ∈ gw_tbl := List.mem_filter.mpr ⟨List.mem_of_getElem? (i := 940) (by decide +kernel), rfl⟩
def mX0_init : MD := (yX0_init, cX0_init, 1, none, { frames := 1, cells := 4, slots := 238, locals := 40 })
def mX0_build : MD := (yX0_build, cX0_build, 2, none, { frames := 5, cells := 0, slots := 0, locals := 116 })
def mX0_endOf : MD := (yX0_endOf, cX0_endOf, 3, (some .int), { frames := 0, cells := 0, slots := 0, locals := 0 })
def mX0_tagOf : MD := (yX0_tagOf, cX0_tagOf, 3, (some .int), { frames := 0, cells := 0, slots := 0, locals := 0 })
def mX0_isGood : MD := (yX0_isGood, cX0_isGood, 2, (some .boolean), { frames := 1, cells := 0, slots := 0, locals := 21 })
def mX0_arcsFrom : MD := (yX0_arcsFrom, cX0_arcsFrom, 4, (some .int), { frames := 1, cells := 0, slots := 0, locals := 22 })
def mX0_wordWith : MD := (yX0_wordWith, cX0_wordWith, 4, (some .int), { frames := 1, cells := 0, slots := 0, locals := 22 })
def mX0_follow : MD := (yX0_follow, cX0_follow, 7, (some .int), { frames := 1, cells := 0, slots := 0, locals := 22 })
def mX0_mostAlike : MD := (yX0_mostAlike, cX0_mostAlike, 5, (some .int), { frames := 3, cells := 0, slots := 0, locals := 70 })
def mX0_withWord : MD := (yX0_withWord, cX0_withWord, 6, (some .int), { frames := 2, cells := 0, slots := 0, locals := 45 })
def mX0_has : MD := (yX0_has, cX0_has, 2, (some .boolean), { frames := 0, cells := 0, slots := 0, locals := 0 })
def mX0_setEnds : MD := (yX0_setEnds, cX0_setEnds, 5, none, { frames := 4, cells := 0, slots := 0, locals := 92 })
def mX0_leadOver : MD := (yX0_leadOver, cX0_leadOver, 5, (some .int), { frames := 3, cells := 0, slots := 0, locals := 68 })
def mX0_setGood : MD := (yX0_setGood, cX0_setGood, 5, none, { frames := 2, cells := 0, slots := 0, locals := 45 })
def mX0_lowestGood : MD := (yX0_lowestGood, cX0_lowestGood, 2, (some .int), { frames := 1, cells := 0, slots := 0, locals := 21 })
def mX0_arcsToGood : MD := (yX0_arcsToGood, cX0_arcsToGood, 4, (some .int), { frames := 1, cells := 0, slots := 0, locals := 22 })
def mX0_setTags : MD := (yX0_setTags, cX0_setTags, 6, none, { frames := 1, cells := 0, slots := 0, locals := 22 })
def mX0_narrowestWindow : MD := (yX0_narrowestWindow, cX0_narrowestWindow, 2, (some .int), { frames := 3, cells := 0, slots := 0, locals := 70 })
def mX0_isDoubtful : MD := (yX0_isDoubtful, cX0_isDoubtful, 4, (some .boolean), { frames := 2, cells := 0, slots := 0, locals := 46 })
def mX0_goOnAlike : MD := (yX0_goOnAlike, cX0_goOnAlike, 5, (some .boolean), { frames := 1, cells := 0, slots := 0, locals := 22 })
def mX0_lengthenMates : MD := (yX0_lengthenMates, cX0_lengthenMates, 5, none, { frames := 2, cells := 0, slots := 0, locals := 46 })
def mX1_init : MD := (yX1_init, cX1_init, 1, none, { frames := 1, cells := 0, slots := 0, locals := 40 })
def mX1_setFirst : MD := (yX1_setFirst, cX1_setFirst, 1, none, { frames := 0, cells := 0, slots := 0, locals := 0 })
def mX1_copy : MD := (yX1_copy, cX1_copy, 2, none, { frames := 0, cells := 0, slots := 0, locals := 0 })
def mX1_tagCount : MD := (yX1_tagCount, cX1_tagCount, 1, (some .int), { frames := 0, cells := 0, slots := 0, locals := 0 })
def mX1_wordCount : MD := (yX1_wordCount, cX1_wordCount, 1, (some .int), { frames := 0, cells := 0, slots := 0, locals := 0 })
def mX1_stateCount : MD := (yX1_stateCount, cX1_stateCount, 1, (some .int), { frames := 0, cells := 0, slots := 0, locals := 0 })
def mX1_start : MD := (yX1_start, cX1_start, 1, (some .int), { frames := 0, cells := 0, slots := 0, locals := 0 })
def mX1_lead : MD := (yX1_lead, cX1_lead, 3, (some .int), { frames := 2, cells := 0, slots := 0, locals := 46 })
def mX1_leadOfRuns : MD := (yX1_leadOfRuns, cX1_leadOfRuns, 3, (some .int), { frames := 0, cells := 0, slots := 0, locals := 0 })
def mX1_leadOfCharge : MD := (yX1_leadOfCharge, cX1_leadOfCharge, 4, (some .int), { frames := 0, cells := 0, slots := 0, locals := 0 })
def mX1_leadOfWord : MD := (yX1_leadOfWord, cX1_leadOfWord, 6, (some .int), { frames := 1, cells := 0, slots := 0, locals := 21 })
def mX1_firstBits : MD := (yX1_firstBits, cX1_firstBits, 2, (some .int), { frames := 0, cells := 0, slots := 0, locals := 0 })
def mX2_init : MD := (yX2_init, cX2_init, 1, none, { frames := 2, cells := 5, slots := 82, locals := 60 })
def mX2_copy : MD := (yX2_copy, cX2_copy, 2, none, { frames := 2, cells := 0, slots := 0, locals := 61 })
def mX3_init : MD := (yX3_init, cX3_init, 1, none, { frames := 1, cells := 3, slots := 72, locals := 40 })
def mX3_empty : MD := (yX3_empty, cX3_empty, 2, none, { frames := 0, cells := 0, slots := 0, locals := 0 })
def mX3_copy : MD := (yX3_copy, cX3_copy, 2, none, { frames := 1, cells := 0, slots := 0, locals := 40 })
def mX3_append : MD := (yX3_append, cX3_append, 4, none, { frames := 0, cells := 0, slots := 0, locals := 0 })
def mX3_turn : MD := (yX3_turn, cX3_turn, 3, (some .int), { frames := 0, cells := 0, slots := 0, locals := 0 })
def mX3_wordAt : MD := (yX3_wordAt, cX3_wordAt, 2, (some .int), { frames := 0, cells := 0, slots := 0, locals := 0 })
def mX3_tagAt : MD := (yX3_tagAt, cX3_tagAt, 2, (some .int), { frames := 0, cells := 0, slots := 0, locals := 0 })
def mX3_turnedBits : MD := (yX3_turnedBits, cX3_turnedBits, 3, (some .int), { frames := 1, cells := 0, slots := 0, locals := 20 })
def mX4_init : MD := (yX4_init, cX4_init, 1, none, { frames := 1, cells := 2, slots := 14, locals := 40 })
def mX4_at : MD := (yX4_at, cX4_at, 2, (some .int), { frames := 0, cells := 0, slots := 0, locals := 0 })
def mX4_countRows : MD := (yX4_countRows, cX4_countRows, 5, (some .int), { frames := 4, cells := 0, slots := 0, locals := 92 })
def mX4_settle : MD := (yX4_settle, cX4_settle, 6, none, { frames := 3, cells := 0, slots := 0, locals := 70 })
def mX4_shareOf : MD := (yX4_shareOf, cX4_shareOf, 3, (some .int), { frames := 1, cells := 0, slots := 0, locals := 22 })
def mX4_setAll : MD := (yX4_setAll, cX4_setAll, 4, none, { frames := 0, cells := 0, slots := 0, locals := 0 })
def mX4_total : MD := (yX4_total, cX4_total, 3, (some .int), { frames := 0, cells := 0, slots := 0, locals := 0 })
def mX4_lengthenRows : MD := (yX4_lengthenRows, cX4_lengthenRows, 5, none, { frames := 3, cells := 0, slots := 0, locals := 68 })
def mX4_lessen : MD := (yX4_lessen, cX4_lessen, 5, (some .boolean), { frames := 2, cells := 0, slots := 0, locals := 46 })
def mX4_sumOver : MD := (yX4_sumOver, cX4_sumOver, 5, (some .int), { frames := 1, cells := 0, slots := 0, locals := 22 })
def mX5_init : MD := (yX5_init, cX5_init, 1, none, { frames := 1, cells := 1, slots := 60, locals := 40 })
def mX5_append : MD := (yX5_append, cX5_append, 2, none, { frames := 0, cells := 0, slots := 0, locals := 0 })
def mX5_readTo : MD := (yX5_readTo, cX5_readTo, 3, (some .int), { frames := 5, cells := 0, slots := 0, locals := 111 })
def mX5_letterAt : MD := (yX5_letterAt, cX5_letterAt, 2, (some .int), { frames := 0, cells := 0, slots := 0, locals := 0 })
def mX5_isFigure : MD := (yX5_isFigure, cX5_isFigure, 3, (some .boolean), { frames := 1, cells := 0, slots := 0, locals := 21 })
def mX5_isTokenStart : MD := (yX5_isTokenStart, cX5_isTokenStart, 2, (some .boolean), { frames := 2, cells := 0, slots := 0, locals := 43 })
def mX5_tokenLength : MD := (yX5_tokenLength, cX5_tokenLength, 3, (some .int), { frames := 2, cells := 0, slots := 0, locals := 43 })
def mX5_takes : MD := (yX5_takes, cX5_takes, 3, (some .boolean), { frames := 4, cells := 0, slots := 0, locals := 89 })
def mX5_takesSort : MD := (yX5_takesSort, cX5_takesSort, 3, (some .boolean), { frames := 0, cells := 0, slots := 0, locals := 0 })
def mX5_takesRate : MD := (yX5_takesRate, cX5_takesRate, 2, (some .boolean), { frames := 0, cells := 0, slots := 0, locals := 0 })
def mX5_figureAt : MD := (yX5_figureAt, cX5_figureAt, 5, (some .int), { frames := 3, cells := 0, slots := 0, locals := 65 })
def mX5_bitsAt : MD := (yX5_bitsAt, cX5_bitsAt, 6, (some .int), { frames := 1, cells := 0, slots := 0, locals := 21 })
def mX6_init : MD := (yX6_init, cX6_init, 2, none, { frames := 6, cells := 69, slots := 1104, locals := 137 })
def mX6_type : MD := (yX6_type, cX6_type, 2, (some .int), { frames := 1, cells := 0, slots := 0, locals := 21 })
def mX6_clear : MD := (yX6_clear, cX6_clear, 2, (some .int), { frames := 0, cells := 0, slots := 0, locals := 0 })
def mX6_tells : MD := (yX6_tells, cX6_tells, 3, (some .int), { frames := 6, cells := 0, slots := 0, locals := 137 })
def mX6_sends : MD := (yX6_sends, cX6_sends, 4, (some .int), { frames := 4, cells := 0, slots := 0, locals := 104 })
def mX6_flips : MD := (yX6_flips, cX6_flips, 3, (some .int), { frames := 4, cells := 0, slots := 0, locals := 104 })
def mX6_undo : MD := (yX6_undo, cX6_undo, 1, (some .int), { frames := 7, cells := 0, slots := 0, locals := 158 })
def mX6_step : MD := (yX6_step, cX6_step, 3, (some .int), { frames := 3, cells := 0, slots := 0, locals := 68 })
def mX6_arc : MD := (yX6_arc, cX6_arc, 4, (some .int), { frames := 2, cells := 0, slots := 0, locals := 41 })
def mX6_state : MD := (yX6_state, cX6_state, 3, (some .int), { frames := 2, cells := 0, slots := 0, locals := 45 })
def mX6_weight : MD := (yX6_weight, cX6_weight, 4, (some .int), { frames := 4, cells := 0, slots := 0, locals := 95 })
def mX6_rows : MD := (yX6_rows, cX6_rows, 2, (some .int), { frames := 5, cells := 0, slots := 0, locals := 116 })
def mX6_word : MD := (yX6_word, cX6_word, 3, (some .int), { frames := 3, cells := 0, slots := 0, locals := 71 })
def mX6_wrong : MD := (yX6_wrong, cX6_wrong, 5, (some .int), { frames := 3, cells := 0, slots := 0, locals := 71 })
def mX6_sees : MD := (yX6_sees, cX6_sees, 2, (some .int), { frames := 2, cells := 0, slots := 0, locals := 41 })
def mX6_forget : MD := (yX6_forget, cX6_forget, 2, (some .int), { frames := 0, cells := 0, slots := 0, locals := 0 })
def mX6_which : MD := (yX6_which, cX6_which, 2, (some .int), { frames := 4, cells := 0, slots := 0, locals := 92 })
def mX6_ask : MD := (yX6_ask, cX6_ask, 6, (some .int), { frames := 4, cells := 0, slots := 0, locals := 94 })
def mX6_keep : MD := (yX6_keep, cX6_keep, 3, (some .int), { frames := 3, cells := 0, slots := 0, locals := 82 })
def mX6_back : MD := (yX6_back, cX6_back, 2, (some .int), { frames := 7, cells := 0, slots := 0, locals := 158 })
def mX6_count : MD := (yX6_count, cX6_count, 2, (some .int), { frames := 2, cells := 0, slots := 0, locals := 42 })
def mX6_isNoState : MD := (yX6_isNoState, cX6_isNoState, 2, (some .boolean), { frames := 0, cells := 0, slots := 0, locals := 0 })
def mX6_isNoWord : MD := (yX6_isNoWord, cX6_isNoWord, 2, (some .boolean), { frames := 1, cells := 0, slots := 0, locals := 20 })
def mX6_isNoImage : MD := (yX6_isNoImage, cX6_isNoImage, 1, (some .boolean), { frames := 0, cells := 0, slots := 0, locals := 0 })
def mX6_remember : MD := (yX6_remember, cX6_remember, 3, none, { frames := 3, cells := 0, slots := 0, locals := 82 })
def mX6_become : MD := (yX6_become, cX6_become, 2, none, { frames := 6, cells := 0, slots := 0, locals := 137 })
def mX6_readByStates : MD := (yX6_readByStates, cX6_readByStates, 6, (some .int), { frames := 1, cells := 0, slots := 0, locals := 22 })
def mX6_readByWindow : MD := (yX6_readByWindow, cX6_readByWindow, 4, (some .int), { frames := 2, cells := 0, slots := 0, locals := 48 })
def mX6_origins : MD := (yX6_origins, cX6_origins, 3, (some .int), { frames := 3, cells := 0, slots := 0, locals := 69 })
def mX6_presentStates : MD := (yX6_presentStates, cX6_presentStates, 4, (some .int), { frames := 3, cells := 0, slots := 0, locals := 69 })
def mX6_endOfSeen : MD := (yX6_endOfSeen, cX6_endOfSeen, 2, (some .int), { frames := 2, cells := 0, slots := 0, locals := 48 })
def mX7_init : MD := (yX7_init, cX7_init, 1, none, { frames := 6, cells := 14, slots := 1232, locals := 140 })
def mX7_in : MD := (yX7_in, cX7_in, 6, (some .boolean), { frames := 0, cells := 0, slots := 0, locals := 0 })
def mX7_begins : MD := (yX7_begins, cX7_begins, 1, none, { frames := 5, cells := 0, slots := 0, locals := 120 })
def mX7_keepPast : MD := (yX7_keepPast, cX7_keepPast, 2, none, { frames := 0, cells := 0, slots := 0, locals := 0 })
def mX7_states : MD := (yX7_states, cX7_states, 1, (some .int), { frames := 0, cells := 0, slots := 0, locals := 0 })
def mX7_start : MD := (yX7_start, cX7_start, 1, (some .int), { frames := 0, cells := 0, slots := 0, locals := 0 })
def mX7_banned : MD := (yX7_banned, cX7_banned, 2, (some .int), { frames := 0, cells := 0, slots := 0, locals := 0 })
def mX7_border : MD := (yX7_border, cX7_border, 7, (some .int), { frames := 1, cells := 0, slots := 0, locals := 21 })
def mX7_stepOf : MD := (yX7_stepOf, cX7_stepOf, 4, (some .int), { frames := 2, cells := 0, slots := 0, locals := 47 })
def mX7_words : MD := (yX7_words, cX7_words, 1, (some .int), { frames := 0, cells := 0, slots := 0, locals := 0 })
def mX7_lead : MD := (yX7_lead, cX7_lead, 3, (some .int), { frames := 1, cells := 0, slots := 0, locals := 20 })
def mX7_tag : MD := (yX7_tag, cX7_tag, 3, (some .int), { frames := 1, cells := 0, slots := 0, locals := 20 })
def mX7_layArcs : MD := (yX7_layArcs, cX7_layArcs, 5, none, { frames := 3, cells := 0, slots := 0, locals := 70 })
def mX7_goodArcs : MD := (yX7_goodArcs, cX7_goodArcs, 5, (some .int), { frames := 2, cells := 0, slots := 0, locals := 42 })
def mX7_finds : MD := (yX7_finds, cX7_finds, 7, none, { frames := 4, cells := 0, slots := 0, locals := 94 })
def mX7_type : MD := (yX7_type, cX7_type, 2, (some .int), { frames := 1, cells := 0, slots := 0, locals := 25 })
def mX7_clear : MD := (yX7_clear, cX7_clear, 2, (some .int), { frames := 0, cells := 0, slots := 0, locals := 0 })
def mX7_here : MD := (yX7_here, cX7_here, 1, (some .int), { frames := 0, cells := 0, slots := 0, locals := 0 })
def mX7_isFigure : MD := (yX7_isFigure, cX7_isFigure, 2, (some .boolean), { frames := 1, cells := 0, slots := 0, locals := 25 })
def mX7_takes : MD := (yX7_takes, cX7_takes, 2, (some .boolean), { frames := 1, cells := 0, slots := 0, locals := 20 })
def mX7_takesNumber : MD := (yX7_takesNumber, cX7_takesNumber, 4, (some .boolean), { frames := 2, cells := 0, slots := 0, locals := 46 })
def mX7_takesBits : MD := (yX7_takesBits, cX7_takesBits, 5, (some .boolean), { frames := 2, cells := 0, slots := 0, locals := 46 })
def mX7_takesBan : MD := (yX7_takesBan, cX7_takesBan, 1, (some .boolean), { frames := 3, cells := 0, slots := 0, locals := 70 })
def mX7_takesAll : MD := (yX7_takesAll, cX7_takesAll, 3, (some .boolean), { frames := 4, cells := 0, slots := 0, locals := 90 })
def mX7_tells : MD := (yX7_tells, cX7_tells, 2, (some .int), { frames := 6, cells := 0, slots := 0, locals := 140 })
def mX7_sends : MD := (yX7_sends, cX7_sends, 4, (some .int), { frames := 5, cells := 0, slots := 0, locals := 120 })
def mX7_wordFor : MD := (yX7_wordFor, cX7_wordFor, 5, (some .int), { frames := 2, cells := 0, slots := 0, locals := 42 })
def mX7_flips : MD := (yX7_flips, cX7_flips, 4, (some .int), { frames := 1, cells := 0, slots := 0, locals := 25 })
def mX7_undo : MD := (yX7_undo, cX7_undo, 2, (some .int), { frames := 0, cells := 0, slots := 0, locals := 0 })
def mX7_isState : MD := (yX7_isState, cX7_isState, 2, (some .boolean), { frames := 1, cells := 0, slots := 0, locals := 25 })
def mX7_step : MD := (yX7_step, cX7_step, 3, (some .int), { frames := 3, cells := 0, slots := 0, locals := 70 })
def mX7_arc : MD := (yX7_arc, cX7_arc, 4, (some .int), { frames := 5, cells := 0, slots := 0, locals := 120 })
def mX7_state : MD := (yX7_state, cX7_state, 5, (some .int), { frames := 5, cells := 0, slots := 0, locals := 120 })
def mX7_weighs : MD := (yX7_weighs, cX7_weighs, 6, none, { frames := 2, cells := 0, slots := 0, locals := 42 })
def mX7_weight : MD := (yX7_weight, cX7_weight, 6, (some .int), { frames := 5, cells := 0, slots := 0, locals := 120 })
def mX7_rows : MD := (yX7_rows, cX7_rows, 5, (some .int), { frames := 3, cells := 0, slots := 0, locals := 70 })
def mX7_goOn : MD := (yX7_goOn, cX7_goOn, 6, (some .boolean), { frames := 2, cells := 0, slots := 0, locals := 42 })
def mX7_layAlike : MD := (yX7_layAlike, cX7_layAlike, 7, none, { frames := 3, cells := 0, slots := 0, locals := 67 })
def mX7_isWide : MD := (yX7_isWide, cX7_isWide, 5, (some .boolean), { frames := 3, cells := 0, slots := 0, locals := 67 })
def mX7_window : MD := (yX7_window, cX7_window, 2, (some .int), { frames := 4, cells := 0, slots := 0, locals := 93 })
def mX7_byStates : MD := (yX7_byStates, cX7_byStates, 5, (some .int), { frames := 2, cells := 0, slots := 0, locals := 42 })
def mX7_byWindow : MD := (yX7_byWindow, cX7_byWindow, 7, (some .int), { frames := 5, cells := 0, slots := 0, locals := 114 })
def mX7_word : MD := (yX7_word, cX7_word, 3, (some .int), { frames := 6, cells := 0, slots := 0, locals := 140 })
def mX7_wrong : MD := (yX7_wrong, cX7_wrong, 4, (some .int), { frames := 6, cells := 0, slots := 0, locals := 140 })
def mX7_sees : MD := (yX7_sees, cX7_sees, 2, (some .int), { frames := 1, cells := 0, slots := 0, locals := 25 })
def mX7_forget : MD := (yX7_forget, cX7_forget, 2, (some .int), { frames := 0, cells := 0, slots := 0, locals := 0 })
def mX7_statesBySeen : MD := (yX7_statesBySeen, cX7_statesBySeen, 6, (some .int), { frames := 2, cells := 0, slots := 0, locals := 42 })
def mX7_which : MD := (yX7_which, cX7_which, 2, (some .int), { frames := 5, cells := 0, slots := 0, locals := 120 })
def mX7_ask : MD := (yX7_ask, cX7_ask, 9, (some .int), { frames := 5, cells := 0, slots := 0, locals := 120 })
def mX7_keep : MD := (yX7_keep, cX7_keep, 3, (some .int), { frames := 1, cells := 0, slots := 0, locals := 25 })
def mX7_back : MD := (yX7_back, cX7_back, 3, (some .int), { frames := 1, cells := 0, slots := 0, locals := 25 })
def mX7_otherBits : MD := (yX7_otherBits, cX7_otherBits, 4, (some .int), { frames := 0, cells := 0, slots := 0, locals := 0 })
def mX7_count : MD := (yX7_count, cX7_count, 2, (some .int), { frames := 5, cells := 0, slots := 0, locals := 120 })
def mJ6_bitCount_0f7a4 : MD := (yJ6_bitCount_0f7a4, cJ6_bitCount_0f7a4, 1, (some .int), { frames := 0, cells := 0, slots := 0, locals := 0 })
def mL_law : MD := (yL_law, code, 4, (some .boolean), room_1)
theorem fX0_9 : FL RX0 9 0 4 := ⟨by decide, by decide, q203⟩
theorem fX0_15 : FL RX0 15 0 5 := ⟨by decide, by decide, q204⟩
theorem fX0_18 : FL RX0 18 0 6 := ⟨by decide, by decide, q205⟩
theorem fX0_21 : FL RX0 21 0 7 := ⟨by decide, by decide, q206⟩
theorem fX0_36 : FL RX0 36 0 0 := ⟨by decide, by decide, q194⟩
theorem fX0_57 : FL RX0 57 0 2 := ⟨by decide, by decide, q200⟩
theorem fX0_63 : FL RX0 63 0 3 := ⟨by decide, by decide, q201⟩
theorem fX0_66 : FL RX0 66 0 1 := ⟨by decide, by decide, q197⟩
theorem fX0_96 : FL RX0 96 1 4 := ⟨by decide, by decide, q134⟩
theorem fX1_14 : FL RX1 14 1 0 := ⟨by decide, by decide, q122⟩
theorem fX1_18 : FL RX1 18 1 1 := ⟨by decide, by decide, q124⟩
theorem fX1_21 : FL RX1 21 1 2 := ⟨by decide, by decide, q126⟩
theorem fX1_24 : FL RX1 24 1 3 := ⟨by decide, by decide, q128⟩
theorem fX1_27 : FL RX1 27 1 4 := ⟨by decide, by decide, q131⟩
theorem fX2_10 : FL RX2 10 2 0 := ⟨by decide, by decide, q179⟩
theorem fX2_19 : FL RX2 19 2 1 := ⟨by decide, by decide, q181⟩
theorem fX3_9 : FL RX3 9 3 0 := ⟨by decide, by decide, q160⟩
theorem fX3_15 : FL RX3 15 3 1 := ⟨by decide, by decide, q162⟩
theorem fX3_18 : FL RX3 18 3 2 := ⟨by decide, by decide, q163⟩
theorem fX3_21 : FL RX3 21 3 3 := ⟨by decide, by decide, q164⟩
theorem fX3_25 : FL RX3 25 3 4 := ⟨by decide, by decide, q166⟩
theorem fX4_9 : FL RX4 9 4 0 := ⟨by decide, by decide, q230⟩
theorem fX4_15 : FL RX4 15 4 1 := ⟨by decide, by decide, q231⟩
theorem fX4_35 : FL RX4 35 0 0 := ⟨by decide, by decide, q195⟩
theorem fX5_9 : FL RX5 9 5 0 := ⟨by decide, by decide, q94⟩
theorem fX5_15 : FL RX5 15 5 1 := ⟨by decide, by decide, q95⟩
theorem fX5_24 : FL RX5 24 5 2 := ⟨by decide, by decide, q97⟩
theorem fX5_27 : FL RX5 27 5 3 := ⟨by decide, by decide, q98⟩
theorem fX5_31 : FL RX5 31 5 4 := ⟨by decide, by decide, q99⟩
theorem fX5_56 : FL RX5 56 1 1 := ⟨by decide, by decide, q125⟩
theorem fX5_65 : FL RX5 65 1 2 := ⟨by decide, by decide, q127⟩
theorem fX5_74 : FL RX5 74 1 3 := ⟨by decide, by decide, q129⟩
theorem fX5_77 : FL RX5 77 1 4 := ⟨by decide, by decide, q133⟩
theorem fX5_83 : FL RX5 83 1 0 := ⟨by decide, by decide, q123⟩
theorem fX6_10 : FL RX6 10 6 0 := ⟨by decide, by decide, q334⟩
theorem fX6_19 : FL RX6 19 6 1 := ⟨by decide, by decide, q335⟩
theorem fX6_26 : FL RX6 26 6 2 := ⟨by decide, by decide, q336⟩
theorem fX6_33 : FL RX6 33 6 3 := ⟨by decide, by decide, q337⟩
theorem fX6_40 : FL RX6 40 6 4 := ⟨by decide, by decide, q338⟩
theorem fX6_44 : FL RX6 44 6 5 := ⟨by decide, by decide, q339⟩
theorem fX6_48 : FL RX6 48 6 7 := ⟨by decide, by decide, q341⟩
theorem fX6_51 : FL RX6 51 6 8 := ⟨by decide, by decide, q342⟩
theorem fX6_55 : FL RX6 55 6 9 := ⟨by decide, by decide, q343⟩
theorem fX6_59 : FL RX6 59 2 0 := ⟨by decide, by decide, q180⟩
theorem fX6_66 : FL RX6 66 2 1 := ⟨by decide, by decide, q182⟩
theorem fX6_70 : FL RX6 70 0 2 := ⟨by decide, by decide, q199⟩
theorem fX6_80 : FL RX6 80 5 1 := ⟨by decide, by decide, q96⟩
theorem fX6_96 : FL RX6 96 6 10 := ⟨by decide, by decide, q344⟩
theorem fX6_99 : FL RX6 99 0 0 := ⟨by decide, by decide, q196⟩
theorem fX6_106 : FL RX6 106 0 1 := ⟨by decide, by decide, q198⟩
theorem fX6_109 : FL RX6 109 3 3 := ⟨by decide, by decide, q165⟩
theorem fX6_110 : FL RX6 110 3 4 := ⟨by decide, by decide, q167⟩
theorem fX6_123 : FL RX6 123 1 4 := ⟨by decide, by decide, q132⟩
theorem fX6_129 : FL RX6 129 6 6 := ⟨by decide, by decide, q340⟩
theorem fX6_156 : FL RX6 156 1 3 := ⟨by decide, by decide, q130⟩
theorem fX6_207 : FL RX6 207 0 3 := ⟨by decide, by decide, q202⟩
theorem fX6_216 : FL RX6 216 3 0 := ⟨by decide, by decide, q161⟩
theorem fX7_7 : FL RX7 7 7 0 := ⟨by decide, by decide, q704⟩
theorem fX7_13 : FL RX7 13 7 1 := ⟨by decide, by decide, q705⟩
theorem fX7_16 : FL RX7 16 7 3 := ⟨by decide, by decide, q707⟩
theorem fX7_19 : FL RX7 19 7 4 := ⟨by decide, by decide, q708⟩
theorem fX7_23 : FL RX7 23 7 5 := ⟨by decide, by decide, q709⟩
theorem fX7_26 : FL RX7 26 7 7 := ⟨by decide, by decide, q711⟩
theorem fX7_29 : FL RX7 29 7 9 := ⟨by decide, by decide, q713⟩
theorem fX7_32 : FL RX7 32 7 10 := ⟨by decide, by decide, q714⟩
theorem fX7_35 : FL RX7 35 7 16 := ⟨by decide, by decide, q719⟩
theorem fX7_38 : FL RX7 38 7 17 := ⟨by decide, by decide, q720⟩
theorem fX7_41 : FL RX7 41 7 18 := ⟨by decide, by decide, q721⟩
theorem fX7_44 : FL RX7 44 7 19 := ⟨by decide, by decide, q722⟩
theorem fX7_47 : FL RX7 47 7 20 := ⟨by decide, by decide, q723⟩
theorem fX7_50 : FL RX7 50 7 21 := ⟨by decide, by decide, q724⟩
theorem fX7_59 : FL RX7 59 7 12 := ⟨by decide, by decide, q716⟩
theorem fX7_63 : FL RX7 63 7 2 := ⟨by decide, by decide, q706⟩
theorem fX7_92 : FL RX7 92 7 11 := ⟨by decide, by decide, q715⟩
theorem fX7_103 : FL RX7 103 7 8 := ⟨by decide, by decide, q712⟩
theorem fX7_106 : FL RX7 106 7 13 := ⟨by decide, by decide, q717⟩
theorem fX7_120 : FL RX7 120 7 15 := ⟨by decide, by decide, q718⟩
theorem fX7_143 : FL RX7 143 7 6 := ⟨by decide, by decide, q710⟩
theorem kX0_build_24 : CLV mX0_build 24 mX1_stateCount 0 := ⟨⟨q242, q71, q245, ⟨by decide, by decide, by decide +kernel⟩, ⟨Nat.le_of_ble_eq_true rfl, Nat.le_of_ble_eq_true rfl⟩⟩, q243, q244⟩
theorem kX0_build_40 : CLV mX0_build 40 mX0_setEnds 1 := ⟨⟨q249, q74, q252, ⟨by decide, by decide, by decide +kernel⟩, ⟨Nat.le_of_ble_eq_true rfl, Nat.le_of_ble_eq_true rfl⟩⟩, q251, q0⟩
theorem kX0_build_44 : CLV mX0_build 44 mX1_tagCount 0 := ⟨⟨q280, q71, q283, ⟨by decide, by decide, by decide +kernel⟩, ⟨Nat.le_of_ble_eq_true rfl, Nat.le_of_ble_eq_true rfl⟩⟩, q281, q282⟩
theorem kX0_build_47 : CLV mX0_build 47 mX0_setGood 1 := ⟨⟨q284, q74, q287, ⟨by decide, by decide, by decide +kernel⟩, ⟨Nat.le_of_ble_eq_true rfl, Nat.le_of_ble_eq_true rfl⟩⟩, q286, q5⟩
theorem kX0_build_51 : CLV mX0_build 51 mX0_setTags 1 := ⟨⟨q299, q74, q302, ⟨by decide, by decide, by decide +kernel⟩, ⟨Nat.le_of_ble_eq_true rfl, Nat.le_of_ble_eq_true rfl⟩⟩, q301, q7⟩
theorem kX0_build_54 : CLV mX0_build 54 mX0_lowestGood 0 := ⟨⟨q303, q74, q306, ⟨by decide, by decide, by decide +kernel⟩, ⟨Nat.le_of_ble_eq_true rfl, Nat.le_of_ble_eq_true rfl⟩⟩, q305, q8⟩
theorem kX0_build_60 : CLV mX0_build 60 mX0_narrowestWindow 0 := ⟨⟨q307, q74, q310, ⟨by decide, by decide, by decide +kernel⟩, ⟨Nat.le_of_ble_eq_true rfl, Nat.le_of_ble_eq_true rfl⟩⟩, q309, q9⟩
theorem kX0_isGood_69 : CLS mX0_isGood 69 mX0_has 2 := ⟨⟨q288, q74, q290, ⟨by decide, by decide, by decide +kernel⟩, ⟨Nat.le_of_ble_eq_true rfl, Nat.le_of_ble_eq_true rfl⟩⟩, q289⟩
theorem kX0_arcsFrom_73 : CLV mX0_arcsFrom 73 mX0_endOf 2 := ⟨⟨q295, q74, q298, ⟨by decide, by decide, by decide +kernel⟩, ⟨Nat.le_of_ble_eq_true rfl, Nat.le_of_ble_eq_true rfl⟩⟩, q296, q297⟩
theorem kX0_wordWith_76 : CLV mX0_wordWith 76 mX0_tagOf 2 := ⟨⟨q319, q74, q322, ⟨by decide, by decide, by decide +kernel⟩, ⟨Nat.le_of_ble_eq_true rfl, Nat.le_of_ble_eq_true rfl⟩⟩, q320, q321⟩
theorem kX0_follow_76 : CLV mX0_follow 76 mX0_tagOf 2 := ⟨⟨q319, q74, q322, ⟨by decide, by decide, by decide +kernel⟩, ⟨Nat.le_of_ble_eq_true rfl, Nat.le_of_ble_eq_true rfl⟩⟩, q320, q321⟩
theorem kX0_follow_73 : CLV mX0_follow 73 mX0_endOf 2 := ⟨⟨q295, q74, q298, ⟨by decide, by decide, by decide +kernel⟩, ⟨Nat.le_of_ble_eq_true rfl, Nat.le_of_ble_eq_true rfl⟩⟩, q296, q297⟩
theorem kX0_mostAlike_69 : CLS mX0_mostAlike 69 mX0_has 2 := ⟨⟨q288, q74, q290, ⟨by decide, by decide, by decide +kernel⟩, ⟨Nat.le_of_ble_eq_true rfl, Nat.le_of_ble_eq_true rfl⟩⟩, q289⟩
theorem kX0_mostAlike_79 : CLV mX0_mostAlike 79 mX0_wordWith 2 := ⟨⟨q628, q74, q455, ⟨by decide, by decide, by decide +kernel⟩, ⟨Nat.le_of_ble_eq_true rfl, Nat.le_of_ble_eq_true rfl⟩⟩, q453, q454⟩
theorem kX0_mostAlike_82 : CLV mX0_mostAlike 82 mX0_withWord 3 := ⟨⟨q629, q74, q632, ⟨by decide, by decide, by decide +kernel⟩, ⟨Nat.le_of_ble_eq_true rfl, Nat.le_of_ble_eq_true rfl⟩⟩, q631, q36⟩
theorem kX0_withWord_69 : CLS mX0_withWord 69 mX0_has 2 := ⟨⟨q288, q74, q290, ⟨by decide, by decide, by decide +kernel⟩, ⟨Nat.le_of_ble_eq_true rfl, Nat.le_of_ble_eq_true rfl⟩⟩, q289⟩
theorem kX0_withWord_79 : CLV mX0_withWord 79 mX0_wordWith 2 := ⟨⟨q628, q74, q455, ⟨by decide, by decide, by decide +kernel⟩, ⟨Nat.le_of_ble_eq_true rfl, Nat.le_of_ble_eq_true rfl⟩⟩, q453, q454⟩
theorem kX0_setEnds_89 : CLV mX0_setEnds 89 mX1_wordCount 0 := ⟨⟨q253, q71, q256, ⟨by decide, by decide, by decide +kernel⟩, ⟨Nat.le_of_ble_eq_true rfl, Nat.le_of_ble_eq_true rfl⟩⟩, q254, q255⟩
theorem kX0_setEnds_92 : CLS mX0_setEnds 92 mX0_leadOver 3 := ⟨⟨q257, q74, q259, ⟨by decide, by decide, by decide +kernel⟩, ⟨Nat.le_of_ble_eq_true rfl, Nat.le_of_ble_eq_true rfl⟩⟩, q258⟩
theorem kX0_leadOver_99 : CLV mX0_leadOver 99 mX1_lead 2 := ⟨⟨q260, q71, q263, ⟨by decide, by decide, by decide +kernel⟩, ⟨Nat.le_of_ble_eq_true rfl, Nat.le_of_ble_eq_true rfl⟩⟩, q261, q262⟩
theorem kX0_setGood_69 : CLS mX0_setGood 69 mX0_has 2 := ⟨⟨q288, q74, q290, ⟨by decide, by decide, by decide +kernel⟩, ⟨Nat.le_of_ble_eq_true rfl, Nat.le_of_ble_eq_true rfl⟩⟩, q289⟩
theorem kX0_setGood_102 : CLV mX0_setGood 102 mX0_arcsToGood 1 := ⟨⟨q291, q74, q294, ⟨by decide, by decide, by decide +kernel⟩, ⟨Nat.le_of_ble_eq_true rfl, Nat.le_of_ble_eq_true rfl⟩⟩, q293, q6⟩
theorem kX0_lowestGood_69 : CLS mX0_lowestGood 69 mX0_has 2 := ⟨⟨q288, q74, q290, ⟨by decide, by decide, by decide +kernel⟩, ⟨Nat.le_of_ble_eq_true rfl, Nat.le_of_ble_eq_true rfl⟩⟩, q289⟩
theorem kX0_arcsToGood_73 : CLV mX0_arcsToGood 73 mX0_endOf 2 := ⟨⟨q295, q74, q298, ⟨by decide, by decide, by decide +kernel⟩, ⟨Nat.le_of_ble_eq_true rfl, Nat.le_of_ble_eq_true rfl⟩⟩, q296, q297⟩
theorem kX0_arcsToGood_69 : CLS mX0_arcsToGood 69 mX0_has 2 := ⟨⟨q288, q74, q290, ⟨by decide, by decide, by decide +kernel⟩, ⟨Nat.le_of_ble_eq_true rfl, Nat.le_of_ble_eq_true rfl⟩⟩, q289⟩
theorem kX0_setTags_69 : CLS mX0_setTags 69 mX0_has 2 := ⟨⟨q288, q74, q290, ⟨by decide, by decide, by decide +kernel⟩, ⟨Nat.le_of_ble_eq_true rfl, Nat.le_of_ble_eq_true rfl⟩⟩, q289⟩
theorem kX0_setTags_73 : CLV mX0_setTags 73 mX0_endOf 2 := ⟨⟨q295, q74, q298, ⟨by decide, by decide, by decide +kernel⟩, ⟨Nat.le_of_ble_eq_true rfl, Nat.le_of_ble_eq_true rfl⟩⟩, q296, q297⟩
theorem kX0_narrowestWindow_106 : CLV mX0_narrowestWindow 106 mX0_isDoubtful 0 := ⟨⟨q311, q74, q314, ⟨by decide, by decide, by decide +kernel⟩, ⟨Nat.le_of_ble_eq_true rfl, Nat.le_of_ble_eq_true rfl⟩⟩, q313, q10⟩
theorem kX0_narrowestWindow_110 : CLV mX0_narrowestWindow 110 mX0_lengthenMates 0 := ⟨⟨q323, q74, q326, ⟨by decide, by decide, by decide +kernel⟩, ⟨Nat.le_of_ble_eq_true rfl, Nat.le_of_ble_eq_true rfl⟩⟩, q325, q12⟩
theorem kX0_isDoubtful_113 : CLV mX0_isDoubtful 113 mX0_goOnAlike 3 := ⟨⟨q315, q74, q318, ⟨by decide, by decide, by decide +kernel⟩, ⟨Nat.le_of_ble_eq_true rfl, Nat.le_of_ble_eq_true rfl⟩⟩, q317, q11⟩
theorem kX0_isDoubtful_76 : CLV mX0_isDoubtful 76 mX0_tagOf 2 := ⟨⟨q319, q74, q322, ⟨by decide, by decide, by decide +kernel⟩, ⟨Nat.le_of_ble_eq_true rfl, Nat.le_of_ble_eq_true rfl⟩⟩, q320, q321⟩
theorem kX0_goOnAlike_76 : CLV mX0_goOnAlike 76 mX0_tagOf 2 := ⟨⟨q319, q74, q322, ⟨by decide, by decide, by decide +kernel⟩, ⟨Nat.le_of_ble_eq_true rfl, Nat.le_of_ble_eq_true rfl⟩⟩, q320, q321⟩
theorem kX0_goOnAlike_73 : CLV mX0_goOnAlike 73 mX0_endOf 2 := ⟨⟨q295, q74, q298, ⟨by decide, by decide, by decide +kernel⟩, ⟨Nat.le_of_ble_eq_true rfl, Nat.le_of_ble_eq_true rfl⟩⟩, q296, q297⟩
theorem kX0_goOnAlike_69 : CLS mX0_goOnAlike 69 mX0_has 2 := ⟨⟨q288, q74, q290, ⟨by decide, by decide, by decide +kernel⟩, ⟨Nat.le_of_ble_eq_true rfl, Nat.le_of_ble_eq_true rfl⟩⟩, q289⟩
theorem kX0_lengthenMates_113 : CLV mX0_lengthenMates 113 mX0_goOnAlike 3 := ⟨⟨q315, q74, q318, ⟨by decide, by decide, by decide +kernel⟩, ⟨Nat.le_of_ble_eq_true rfl, Nat.le_of_ble_eq_true rfl⟩⟩, q317, q11⟩
theorem kX1_init_9 : CLV mX1_init 9 mX1_setFirst 0 := ⟨⟨q118, q71, q121, ⟨by decide, by decide, by decide +kernel⟩, ⟨Nat.le_of_ble_eq_true rfl, Nat.le_of_ble_eq_true rfl⟩⟩, q119, q120⟩
theorem kX1_lead_30 : CLV mX1_lead 30 mX1_leadOfRuns 2 := ⟨⟨q264, q71, q267, ⟨by decide, by decide, by decide +kernel⟩, ⟨Nat.le_of_ble_eq_true rfl, Nat.le_of_ble_eq_true rfl⟩⟩, q266, q1⟩
theorem kX1_lead_34 : CLV mX1_lead 34 mX1_leadOfCharge 2 := ⟨⟨q268, q71, q271, ⟨by decide, by decide, by decide +kernel⟩, ⟨Nat.le_of_ble_eq_true rfl, Nat.le_of_ble_eq_true rfl⟩⟩, q270, q2⟩
theorem kX1_lead_37 : CLV mX1_lead 37 mX1_leadOfWord 2 := ⟨⟨q272, q71, q275, ⟨by decide, by decide, by decide +kernel⟩, ⟨Nat.le_of_ble_eq_true rfl, Nat.le_of_ble_eq_true rfl⟩⟩, q274, q3⟩
theorem kX1_leadOfWord_40 : CLV mX1_leadOfWord 40 mX1_firstBits 1 := ⟨⟨q276, q71, q279, ⟨by decide, by decide, by decide +kernel⟩, ⟨Nat.le_of_ble_eq_true rfl, Nat.le_of_ble_eq_true rfl⟩⟩, q278, q4⟩
theorem kX2_init_9 : CLI mX2_init 9 mX1_init 0 := ⟨⟨q153, q71, q116, ⟨by decide, by decide, by decide +kernel⟩, ⟨Nat.le_of_ble_eq_true rfl, Nat.le_of_ble_eq_true rfl⟩⟩, q115, rfl⟩
theorem kX2_init_18 : CLI mX2_init 18 mX3_init 0 := ⟨⟨q156, q73, q158, ⟨by decide, by decide, by decide +kernel⟩, ⟨Nat.le_of_ble_eq_true rfl, Nat.le_of_ble_eq_true rfl⟩⟩, q157, rfl⟩
theorem kX2_copy_23 : CLV mX2_copy 23 mX1_copy 1 := ⟨⟨q437, q71, q440, ⟨by decide, by decide, by decide +kernel⟩, ⟨Nat.le_of_ble_eq_true rfl, Nat.le_of_ble_eq_true rfl⟩⟩, q438, q439⟩
theorem kX2_copy_27 : CLV mX2_copy 27 mX3_copy 1 := ⟨⟨q441, q73, q444, ⟨by decide, by decide, by decide +kernel⟩, ⟨Nat.le_of_ble_eq_true rfl, Nat.le_of_ble_eq_true rfl⟩⟩, q442, q443⟩
theorem kX3_turnedBits_34 : CLS mX3_turnedBits 34 mJ6_bitCount_0f7a4 1 := ⟨⟨q654, q79, q620, ⟨by decide, by decide, by decide +kernel⟩, ⟨Nat.le_of_ble_eq_true rfl, Nat.le_of_ble_eq_true rfl⟩⟩, q619⟩
theorem kX4_countRows_18 : CLV mX4_countRows 18 mX4_setAll 2 := ⟨⟨q516, q75, q519, ⟨by decide, by decide, by decide +kernel⟩, ⟨Nat.le_of_ble_eq_true rfl, Nat.le_of_ble_eq_true rfl⟩⟩, q518, q26⟩
theorem kX4_countRows_22 : CLV mX4_countRows 22 mX1_start 0 := ⟨⟨q552, q71, q555, ⟨by decide, by decide, by decide +kernel⟩, ⟨Nat.le_of_ble_eq_true rfl, Nat.le_of_ble_eq_true rfl⟩⟩, q553, q554⟩
theorem kX4_countRows_28 : CLV mX4_countRows 28 mX4_lengthenRows 1 := ⟨⟨q556, q75, q559, ⟨by decide, by decide, by decide +kernel⟩, ⟨Nat.le_of_ble_eq_true rfl, Nat.le_of_ble_eq_true rfl⟩⟩, q558, q30⟩
theorem kX4_countRows_32 : CLV mX4_countRows 32 mX4_total 0 := ⟨⟨q540, q75, q543, ⟨by decide, by decide, by decide +kernel⟩, ⟨Nat.le_of_ble_eq_true rfl, Nat.le_of_ble_eq_true rfl⟩⟩, q542, q29⟩
theorem kX4_settle_18 : CLV mX4_settle 18 mX4_setAll 2 := ⟨⟨q516, q75, q519, ⟨by decide, by decide, by decide +kernel⟩, ⟨Nat.le_of_ble_eq_true rfl, Nat.le_of_ble_eq_true rfl⟩⟩, q518, q26⟩
theorem kX4_settle_41 : CLV mX4_settle 41 mX4_lessen 2 := ⟨⟨q520, q75, q523, ⟨by decide, by decide, by decide +kernel⟩, ⟨Nat.le_of_ble_eq_true rfl, Nat.le_of_ble_eq_true rfl⟩⟩, q522, q27⟩
theorem kX4_shareOf_32 : CLV mX4_shareOf 32 mX4_total 0 := ⟨⟨q540, q75, q543, ⟨by decide, by decide, by decide +kernel⟩, ⟨Nat.le_of_ble_eq_true rfl, Nat.le_of_ble_eq_true rfl⟩⟩, q542, q29⟩
theorem kX4_shareOf_45 : CLV mX4_shareOf 45 mX4_at 1 := ⟨⟨q529, q75, q532, ⟨by decide, by decide, by decide +kernel⟩, ⟨Nat.le_of_ble_eq_true rfl, Nat.le_of_ble_eq_true rfl⟩⟩, q530, q531⟩
theorem kX4_lengthenRows_49 : CLV mX4_lengthenRows 49 mX1_stateCount 0 := ⟨⟨q560, q71, q245, ⟨by decide, by decide, by decide +kernel⟩, ⟨Nat.le_of_ble_eq_true rfl, Nat.le_of_ble_eq_true rfl⟩⟩, q243, q244⟩
theorem kX4_lengthenRows_52 : CLV mX4_lengthenRows 52 mX1_lead 2 := ⟨⟨q561, q71, q263, ⟨by decide, by decide, by decide +kernel⟩, ⟨Nat.le_of_ble_eq_true rfl, Nat.le_of_ble_eq_true rfl⟩⟩, q261, q262⟩
theorem kX4_lessen_62 : CLV mX4_lessen 62 mX4_sumOver 2 := ⟨⟨q524, q75, q527, ⟨by decide, by decide, by decide +kernel⟩, ⟨Nat.le_of_ble_eq_true rfl, Nat.le_of_ble_eq_true rfl⟩⟩, q526, q28⟩
theorem kX4_sumOver_71 : CLV mX4_sumOver 71 mX0_endOf 2 := ⟨⟨q528, q74, q298, ⟨by decide, by decide, by decide +kernel⟩, ⟨Nat.le_of_ble_eq_true rfl, Nat.le_of_ble_eq_true rfl⟩⟩, q296, q297⟩
theorem kX4_sumOver_45 : CLV mX4_sumOver 45 mX4_at 1 := ⟨⟨q529, q75, q532, ⟨by decide, by decide, by decide +kernel⟩, ⟨Nat.le_of_ble_eq_true rfl, Nat.le_of_ble_eq_true rfl⟩⟩, q530, q531⟩
theorem kX5_readTo_19 : CLV mX5_readTo 19 mX1_setFirst 0 := ⟨⟨q389, q71, q121, ⟨by decide, by decide, by decide +kernel⟩, ⟨Nat.le_of_ble_eq_true rfl, Nat.le_of_ble_eq_true rfl⟩⟩, q119, q120⟩
theorem kX5_readTo_34 : CLV mX5_readTo 34 mX5_isTokenStart 1 := ⟨⟨q390, q70, q393, ⟨by decide, by decide, by decide +kernel⟩, ⟨Nat.le_of_ble_eq_true rfl, Nat.le_of_ble_eq_true rfl⟩⟩, q392, q13⟩
theorem kX5_readTo_38 : CLV mX5_readTo 38 mX5_takes 2 := ⟨⟨q402, q70, q405, ⟨by decide, by decide, by decide +kernel⟩, ⟨Nat.le_of_ble_eq_true rfl, Nat.le_of_ble_eq_true rfl⟩⟩, q404, q16⟩
theorem kX5_isFigure_42 : CLV mX5_isFigure 42 mX5_letterAt 1 := ⟨⟨q394, q70, q397, ⟨by decide, by decide, by decide +kernel⟩, ⟨Nat.le_of_ble_eq_true rfl, Nat.le_of_ble_eq_true rfl⟩⟩, q396, q14⟩
theorem kX5_isTokenStart_42 : CLV mX5_isTokenStart 42 mX5_letterAt 1 := ⟨⟨q394, q70, q397, ⟨by decide, by decide, by decide +kernel⟩, ⟨Nat.le_of_ble_eq_true rfl, Nat.le_of_ble_eq_true rfl⟩⟩, q396, q14⟩
theorem kX5_isTokenStart_46 : CLV mX5_isTokenStart 46 mX5_isFigure 1 := ⟨⟨q398, q70, q401, ⟨by decide, by decide, by decide +kernel⟩, ⟨Nat.le_of_ble_eq_true rfl, Nat.le_of_ble_eq_true rfl⟩⟩, q400, q15⟩
theorem kX5_tokenLength_46 : CLV mX5_tokenLength 46 mX5_isFigure 1 := ⟨⟨q398, q70, q401, ⟨by decide, by decide, by decide +kernel⟩, ⟨Nat.le_of_ble_eq_true rfl, Nat.le_of_ble_eq_true rfl⟩⟩, q400, q15⟩
theorem kX5_takes_42 : CLV mX5_takes 42 mX5_letterAt 1 := ⟨⟨q394, q70, q397, ⟨by decide, by decide, by decide +kernel⟩, ⟨Nat.le_of_ble_eq_true rfl, Nat.le_of_ble_eq_true rfl⟩⟩, q396, q14⟩
theorem kX5_takes_49 : CLV mX5_takes 49 mX5_takesSort 2 := ⟨⟨q406, q70, q409, ⟨by decide, by decide, by decide +kernel⟩, ⟨Nat.le_of_ble_eq_true rfl, Nat.le_of_ble_eq_true rfl⟩⟩, q408, q17⟩
theorem kX5_takes_52 : CLV mX5_takes 52 mX5_figureAt 3 := ⟨⟨q410, q70, q413, ⟨by decide, by decide, by decide +kernel⟩, ⟨Nat.le_of_ble_eq_true rfl, Nat.le_of_ble_eq_true rfl⟩⟩, q412, q18⟩
theorem kX5_takes_68 : CLV mX5_takes 68 mX5_tokenLength 1 := ⟨⟨q414, q70, q417, ⟨by decide, by decide, by decide +kernel⟩, ⟨Nat.le_of_ble_eq_true rfl, Nat.le_of_ble_eq_true rfl⟩⟩, q416, q19⟩
theorem kX5_takes_71 : CLV mX5_takes 71 mX5_bitsAt 2 := ⟨⟨q421, q70, q424, ⟨by decide, by decide, by decide +kernel⟩, ⟨Nat.le_of_ble_eq_true rfl, Nat.le_of_ble_eq_true rfl⟩⟩, q423, q20⟩
theorem kX5_takes_80 : CLV mX5_takes 80 mX5_takesRate 1 := ⟨⟨q425, q70, q428, ⟨by decide, by decide, by decide +kernel⟩, ⟨Nat.le_of_ble_eq_true rfl, Nat.le_of_ble_eq_true rfl⟩⟩, q427, q21⟩
theorem kX5_figureAt_42 : CLV mX5_figureAt 42 mX5_letterAt 1 := ⟨⟨q394, q70, q397, ⟨by decide, by decide, by decide +kernel⟩, ⟨Nat.le_of_ble_eq_true rfl, Nat.le_of_ble_eq_true rfl⟩⟩, q396, q14⟩
theorem kX5_figureAt_68 : CLV mX5_figureAt 68 mX5_tokenLength 1 := ⟨⟨q414, q70, q417, ⟨by decide, by decide, by decide +kernel⟩, ⟨Nat.le_of_ble_eq_true rfl, Nat.le_of_ble_eq_true rfl⟩⟩, q416, q19⟩
theorem kX5_bitsAt_42 : CLV mX5_bitsAt 42 mX5_letterAt 1 := ⟨⟨q394, q70, q397, ⟨by decide, by decide, by decide +kernel⟩, ⟨Nat.le_of_ble_eq_true rfl, Nat.le_of_ble_eq_true rfl⟩⟩, q396, q14⟩
theorem kX6_init_9 : CLI mX6_init 9 mX5_init 0 := ⟨⟨q90, q70, q92, ⟨by decide, by decide, by decide +kernel⟩, ⟨Nat.le_of_ble_eq_true rfl, Nat.le_of_ble_eq_true rfl⟩⟩, q91, rfl⟩
theorem kX6_init_18 : CLI mX6_init 18 mX1_init 0 := ⟨⟨q114, q71, q116, ⟨by decide, by decide, by decide +kernel⟩, ⟨Nat.le_of_ble_eq_true rfl, Nat.le_of_ble_eq_true rfl⟩⟩, q115, rfl⟩
theorem kX6_init_25 : CLI mX6_init 25 mX2_init 0 := ⟨⟨q148, q72, q150, ⟨by decide, by decide, by decide +kernel⟩, ⟨Nat.le_of_ble_eq_true rfl, Nat.le_of_ble_eq_true rfl⟩⟩, q149, rfl⟩
theorem kX6_init_32 : CLI mX6_init 32 mX0_init 0 := ⟨⟨q190, q74, q192, ⟨by decide, by decide, by decide +kernel⟩, ⟨Nat.le_of_ble_eq_true rfl, Nat.le_of_ble_eq_true rfl⟩⟩, q191, rfl⟩
theorem kX6_init_39 : CLI mX6_init 39 mX4_init 0 := ⟨⟨q226, q75, q228, ⟨by decide, by decide, by decide +kernel⟩, ⟨Nat.le_of_ble_eq_true rfl, Nat.le_of_ble_eq_true rfl⟩⟩, q227, rfl⟩
theorem kX6_init_62 : CLV mX6_init 62 mX0_build 1 := ⟨⟨q238, q74, q241, ⟨by decide, by decide, by decide +kernel⟩, ⟨Nat.le_of_ble_eq_true rfl, Nat.le_of_ble_eq_true rfl⟩⟩, q239, q240⟩
theorem kX6_init_74 : CLV mX6_init 74 mX3_empty 1 := ⟨⟨q330, q73, q333, ⟨by decide, by decide, by decide +kernel⟩, ⟨Nat.le_of_ble_eq_true rfl, Nat.le_of_ble_eq_true rfl⟩⟩, q331, q332⟩
theorem kX6_type_83 : CLV mX6_type 83 mX5_append 1 := ⟨⟨q373, q70, q376, ⟨by decide, by decide, by decide +kernel⟩, ⟨Nat.le_of_ble_eq_true rfl, Nat.le_of_ble_eq_true rfl⟩⟩, q374, q375⟩
theorem kX6_tells_86 : CLV mX6_tells 86 mX5_readTo 1 := ⟨⟨q385, q70, q388, ⟨by decide, by decide, by decide +kernel⟩, ⟨Nat.le_of_ble_eq_true rfl, Nat.le_of_ble_eq_true rfl⟩⟩, q386, q387⟩
theorem kX6_tells_90 : CLV mX6_tells 90 mX6_remember 0 := ⟨⟨q429, q69, q432, ⟨by decide, by decide, by decide +kernel⟩, ⟨Nat.le_of_ble_eq_true rfl, Nat.le_of_ble_eq_true rfl⟩⟩, q431, q22⟩
theorem kX6_tells_93 : CLV mX6_tells 93 mX1_copy 1 := ⟨⟨q446, q71, q440, ⟨by decide, by decide, by decide +kernel⟩, ⟨Nat.le_of_ble_eq_true rfl, Nat.le_of_ble_eq_true rfl⟩⟩, q438, q439⟩
theorem kX6_tells_62 : CLV mX6_tells 62 mX0_build 1 := ⟨⟨q238, q74, q241, ⟨by decide, by decide, by decide +kernel⟩, ⟨Nat.le_of_ble_eq_true rfl, Nat.le_of_ble_eq_true rfl⟩⟩, q239, q240⟩
theorem kX6_tells_74 : CLV mX6_tells 74 mX3_empty 1 := ⟨⟨q330, q73, q333, ⟨by decide, by decide, by decide +kernel⟩, ⟨Nat.le_of_ble_eq_true rfl, Nat.le_of_ble_eq_true rfl⟩⟩, q331, q332⟩
theorem kX6_sends_102 : CLV mX6_sends 102 mX1_tagCount 0 := ⟨⟨q451, q71, q283, ⟨by decide, by decide, by decide +kernel⟩, ⟨Nat.le_of_ble_eq_true rfl, Nat.le_of_ble_eq_true rfl⟩⟩, q281, q282⟩
theorem kX6_sends_90 : CLV mX6_sends 90 mX6_remember 0 := ⟨⟨q429, q69, q432, ⟨by decide, by decide, by decide +kernel⟩, ⟨Nat.le_of_ble_eq_true rfl, Nat.le_of_ble_eq_true rfl⟩⟩, q431, q22⟩
theorem kX6_sends_113 : CLV mX6_sends 113 mX0_wordWith 2 := ⟨⟨q452, q74, q455, ⟨by decide, by decide, by decide +kernel⟩, ⟨Nat.le_of_ble_eq_true rfl, Nat.le_of_ble_eq_true rfl⟩⟩, q453, q454⟩
theorem kX6_sends_117 : CLV mX6_sends 117 mX0_endOf 2 := ⟨⟨q456, q74, q298, ⟨by decide, by decide, by decide +kernel⟩, ⟨Nat.le_of_ble_eq_true rfl, Nat.le_of_ble_eq_true rfl⟩⟩, q296, q297⟩
theorem kX6_sends_120 : CLV mX6_sends 120 mX3_append 3 := ⟨⟨q457, q73, q460, ⟨by decide, by decide, by decide +kernel⟩, ⟨Nat.le_of_ble_eq_true rfl, Nat.le_of_ble_eq_true rfl⟩⟩, q458, q459⟩
theorem kX6_flips_90 : CLV mX6_flips 90 mX6_remember 0 := ⟨⟨q429, q69, q432, ⟨by decide, by decide, by decide +kernel⟩, ⟨Nat.le_of_ble_eq_true rfl, Nat.le_of_ble_eq_true rfl⟩⟩, q431, q22⟩
theorem kX6_flips_126 : CLV mX6_flips 126 mX3_turn 2 := ⟨⟨q465, q73, q468, ⟨by decide, by decide, by decide +kernel⟩, ⟨Nat.le_of_ble_eq_true rfl, Nat.le_of_ble_eq_true rfl⟩⟩, q466, q467⟩
theorem kX6_undo_132 : CLV mX6_undo 132 mX6_become 1 := ⟨⟨q473, q69, q476, ⟨by decide, by decide, by decide +kernel⟩, ⟨Nat.le_of_ble_eq_true rfl, Nat.le_of_ble_eq_true rfl⟩⟩, q475, q23⟩
theorem kX6_step_136 : CLV mX6_step 136 mX6_isNoState 1 := ⟨⟨q481, q69, q484, ⟨by decide, by decide, by decide +kernel⟩, ⟨Nat.le_of_ble_eq_true rfl, Nat.le_of_ble_eq_true rfl⟩⟩, q483, q24⟩
theorem kX6_step_140 : CLV mX6_step 140 mX1_lead 2 := ⟨⟨q485, q71, q263, ⟨by decide, by decide, by decide +kernel⟩, ⟨Nat.le_of_ble_eq_true rfl, Nat.le_of_ble_eq_true rfl⟩⟩, q261, q262⟩
theorem kX6_arc_136 : CLV mX6_arc 136 mX6_isNoState 1 := ⟨⟨q481, q69, q484, ⟨by decide, by decide, by decide +kernel⟩, ⟨Nat.le_of_ble_eq_true rfl, Nat.le_of_ble_eq_true rfl⟩⟩, q483, q24⟩
theorem kX6_arc_143 : CLV mX6_arc 143 mX6_isNoWord 1 := ⟨⟨q490, q69, q493, ⟨by decide, by decide, by decide +kernel⟩, ⟨Nat.le_of_ble_eq_true rfl, Nat.le_of_ble_eq_true rfl⟩⟩, q492, q25⟩
theorem kX6_arc_117 : CLV mX6_arc 117 mX0_endOf 2 := ⟨⟨q456, q74, q298, ⟨by decide, by decide, by decide +kernel⟩, ⟨Nat.le_of_ble_eq_true rfl, Nat.le_of_ble_eq_true rfl⟩⟩, q296, q297⟩
theorem kX6_arc_146 : CLV mX6_arc 146 mX0_tagOf 2 := ⟨⟨q495, q74, q322, ⟨by decide, by decide, by decide +kernel⟩, ⟨Nat.le_of_ble_eq_true rfl, Nat.le_of_ble_eq_true rfl⟩⟩, q320, q321⟩
theorem kX6_state_136 : CLV mX6_state 136 mX6_isNoState 1 := ⟨⟨q481, q69, q484, ⟨by decide, by decide, by decide +kernel⟩, ⟨Nat.le_of_ble_eq_true rfl, Nat.le_of_ble_eq_true rfl⟩⟩, q483, q24⟩
theorem kX6_state_149 : CLV mX6_state 149 mX0_arcsFrom 1 := ⟨⟨q500, q74, q503, ⟨by decide, by decide, by decide +kernel⟩, ⟨Nat.le_of_ble_eq_true rfl, Nat.le_of_ble_eq_true rfl⟩⟩, q501, q502⟩
theorem kX6_state_153 : CLV mX6_state 153 mX0_isGood 1 := ⟨⟨q504, q74, q507, ⟨by decide, by decide, by decide +kernel⟩, ⟨Nat.le_of_ble_eq_true rfl, Nat.le_of_ble_eq_true rfl⟩⟩, q505, q506⟩
theorem kX6_weight_136 : CLV mX6_weight 136 mX6_isNoState 1 := ⟨⟨q481, q69, q484, ⟨by decide, by decide, by decide +kernel⟩, ⟨Nat.le_of_ble_eq_true rfl, Nat.le_of_ble_eq_true rfl⟩⟩, q483, q24⟩
theorem kX6_weight_159 : CLV mX6_weight 159 mX4_settle 3 := ⟨⟨q512, q75, q515, ⟨by decide, by decide, by decide +kernel⟩, ⟨Nat.le_of_ble_eq_true rfl, Nat.le_of_ble_eq_true rfl⟩⟩, q513, q514⟩
theorem kX6_weight_163 : CLV mX6_weight 163 mX4_at 1 := ⟨⟨q535, q75, q532, ⟨by decide, by decide, by decide +kernel⟩, ⟨Nat.le_of_ble_eq_true rfl, Nat.le_of_ble_eq_true rfl⟩⟩, q530, q531⟩
theorem kX6_weight_166 : CLV mX6_weight 166 mX4_shareOf 1 := ⟨⟨q536, q75, q539, ⟨by decide, by decide, by decide +kernel⟩, ⟨Nat.le_of_ble_eq_true rfl, Nat.le_of_ble_eq_true rfl⟩⟩, q537, q538⟩
theorem kX6_rows_169 : CLV mX6_rows 169 mX4_countRows 2 := ⟨⟨q548, q75, q551, ⟨by decide, by decide, by decide +kernel⟩, ⟨Nat.le_of_ble_eq_true rfl, Nat.le_of_ble_eq_true rfl⟩⟩, q549, q550⟩
theorem kX6_word_173 : CLV mX6_word 173 mX3_wordAt 1 := ⟨⟨q566, q73, q569, ⟨by decide, by decide, by decide +kernel⟩, ⟨Nat.le_of_ble_eq_true rfl, Nat.le_of_ble_eq_true rfl⟩⟩, q567, q568⟩
theorem kX6_word_176 : CLV mX6_word 176 mX3_tagAt 1 := ⟨⟨q570, q73, q573, ⟨by decide, by decide, by decide +kernel⟩, ⟨Nat.le_of_ble_eq_true rfl, Nat.le_of_ble_eq_true rfl⟩⟩, q571, q572⟩
theorem kX6_word_179 : CLV mX6_word 179 mX6_readByStates 1 := ⟨⟨q574, q69, q577, ⟨by decide, by decide, by decide +kernel⟩, ⟨Nat.le_of_ble_eq_true rfl, Nat.le_of_ble_eq_true rfl⟩⟩, q576, q31⟩
theorem kX6_word_182 : CLV mX6_word 182 mX6_readByWindow 1 := ⟨⟨q578, q69, q581, ⟨by decide, by decide, by decide +kernel⟩, ⟨Nat.le_of_ble_eq_true rfl, Nat.le_of_ble_eq_true rfl⟩⟩, q580, q32⟩
theorem kX6_wrong_179 : CLV mX6_wrong 179 mX6_readByStates 1 := ⟨⟨q574, q69, q577, ⟨by decide, by decide, by decide +kernel⟩, ⟨Nat.le_of_ble_eq_true rfl, Nat.le_of_ble_eq_true rfl⟩⟩, q576, q31⟩
theorem kX6_wrong_182 : CLV mX6_wrong 182 mX6_readByWindow 1 := ⟨⟨q578, q69, q581, ⟨by decide, by decide, by decide +kernel⟩, ⟨Nat.le_of_ble_eq_true rfl, Nat.le_of_ble_eq_true rfl⟩⟩, q580, q32⟩
theorem kX6_wrong_176 : CLV mX6_wrong 176 mX3_tagAt 1 := ⟨⟨q570, q73, q573, ⟨by decide, by decide, by decide +kernel⟩, ⟨Nat.le_of_ble_eq_true rfl, Nat.le_of_ble_eq_true rfl⟩⟩, q571, q572⟩
theorem kX6_sees_143 : CLV mX6_sees 143 mX6_isNoWord 1 := ⟨⟨q490, q69, q493, ⟨by decide, by decide, by decide +kernel⟩, ⟨Nat.le_of_ble_eq_true rfl, Nat.le_of_ble_eq_true rfl⟩⟩, q492, q25⟩
theorem kX6_which_185 : CLV mX6_which 185 mX6_origins 0 := ⟨⟨q602, q69, q605, ⟨by decide, by decide, by decide +kernel⟩, ⟨Nat.le_of_ble_eq_true rfl, Nat.le_of_ble_eq_true rfl⟩⟩, q604, q33⟩
theorem kX6_which_188 : CLV mX6_which 188 mX6_presentStates 0 := ⟨⟨q610, q69, q613, ⟨by decide, by decide, by decide +kernel⟩, ⟨Nat.le_of_ble_eq_true rfl, Nat.le_of_ble_eq_true rfl⟩⟩, q612, q35⟩
theorem kX6_ask_188 : CLV mX6_ask 188 mX6_presentStates 0 := ⟨⟨q610, q69, q613, ⟨by decide, by decide, by decide +kernel⟩, ⟨Nat.le_of_ble_eq_true rfl, Nat.le_of_ble_eq_true rfl⟩⟩, q612, q35⟩
theorem kX6_ask_191 : CLS mX6_ask 191 mJ6_bitCount_0f7a4 1 := ⟨⟨q618, q79, q620, ⟨by decide, by decide, by decide +kernel⟩, ⟨Nat.le_of_ble_eq_true rfl, Nat.le_of_ble_eq_true rfl⟩⟩, q619⟩
theorem kX6_ask_102 : CLV mX6_ask 102 mX1_tagCount 0 := ⟨⟨q451, q71, q283, ⟨by decide, by decide, by decide +kernel⟩, ⟨Nat.le_of_ble_eq_true rfl, Nat.le_of_ble_eq_true rfl⟩⟩, q281, q282⟩
theorem kX6_ask_196 : CLV mX6_ask 196 mX0_mostAlike 2 := ⟨⟨q624, q74, q627, ⟨by decide, by decide, by decide +kernel⟩, ⟨Nat.le_of_ble_eq_true rfl, Nat.le_of_ble_eq_true rfl⟩⟩, q625, q626⟩
theorem kX6_keep_199 : CLS mX6_keep 199 mX6_isNoImage 1 := ⟨⟨q638, q69, q640, ⟨by decide, by decide, by decide +kernel⟩, ⟨Nat.le_of_ble_eq_true rfl, Nat.le_of_ble_eq_true rfl⟩⟩, q639⟩
theorem kX6_keep_202 : CLV mX6_keep 202 mX2_copy 1 := ⟨⟨q433, q72, q436, ⟨by decide, by decide, by decide +kernel⟩, ⟨Nat.le_of_ble_eq_true rfl, Nat.le_of_ble_eq_true rfl⟩⟩, q434, q435⟩
theorem kX6_back_199 : CLS mX6_back 199 mX6_isNoImage 1 := ⟨⟨q638, q69, q640, ⟨by decide, by decide, by decide +kernel⟩, ⟨Nat.le_of_ble_eq_true rfl, Nat.le_of_ble_eq_true rfl⟩⟩, q639⟩
theorem kX6_back_132 : CLV mX6_back 132 mX6_become 1 := ⟨⟨q473, q69, q476, ⟨by decide, by decide, by decide +kernel⟩, ⟨Nat.le_of_ble_eq_true rfl, Nat.le_of_ble_eq_true rfl⟩⟩, q475, q23⟩
theorem kX6_count_204 : CLV mX6_count 204 mX1_start 0 := ⟨⟨q649, q71, q555, ⟨by decide, by decide, by decide +kernel⟩, ⟨Nat.le_of_ble_eq_true rfl, Nat.le_of_ble_eq_true rfl⟩⟩, q553, q554⟩
theorem kX6_count_210 : CLV mX6_count 210 mX3_turnedBits 0 := ⟨⟨q650, q73, q653, ⟨by decide, by decide, by decide +kernel⟩, ⟨Nat.le_of_ble_eq_true rfl, Nat.le_of_ble_eq_true rfl⟩⟩, q651, q652⟩
theorem kX6_isNoWord_213 : CLV mX6_isNoWord 213 mX1_wordCount 0 := ⟨⟨q494, q71, q256, ⟨by decide, by decide, by decide +kernel⟩, ⟨Nat.le_of_ble_eq_true rfl, Nat.le_of_ble_eq_true rfl⟩⟩, q254, q255⟩
theorem kX6_remember_202 : CLV mX6_remember 202 mX2_copy 1 := ⟨⟨q433, q72, q436, ⟨by decide, by decide, by decide +kernel⟩, ⟨Nat.le_of_ble_eq_true rfl, Nat.le_of_ble_eq_true rfl⟩⟩, q434, q435⟩
theorem kX6_become_202 : CLV mX6_become 202 mX2_copy 1 := ⟨⟨q433, q72, q436, ⟨by decide, by decide, by decide +kernel⟩, ⟨Nat.le_of_ble_eq_true rfl, Nat.le_of_ble_eq_true rfl⟩⟩, q434, q435⟩
theorem kX6_become_62 : CLV mX6_become 62 mX0_build 1 := ⟨⟨q238, q74, q241, ⟨by decide, by decide, by decide +kernel⟩, ⟨Nat.le_of_ble_eq_true rfl, Nat.le_of_ble_eq_true rfl⟩⟩, q239, q240⟩
theorem kX6_readByStates_173 : CLV mX6_readByStates 173 mX3_wordAt 1 := ⟨⟨q566, q73, q569, ⟨by decide, by decide, by decide +kernel⟩, ⟨Nat.le_of_ble_eq_true rfl, Nat.le_of_ble_eq_true rfl⟩⟩, q567, q568⟩
theorem kX6_readByStates_146 : CLV mX6_readByStates 146 mX0_tagOf 2 := ⟨⟨q495, q74, q322, ⟨by decide, by decide, by decide +kernel⟩, ⟨Nat.le_of_ble_eq_true rfl, Nat.le_of_ble_eq_true rfl⟩⟩, q320, q321⟩
theorem kX6_readByStates_117 : CLV mX6_readByStates 117 mX0_endOf 2 := ⟨⟨q456, q74, q298, ⟨by decide, by decide, by decide +kernel⟩, ⟨Nat.le_of_ble_eq_true rfl, Nat.le_of_ble_eq_true rfl⟩⟩, q296, q297⟩
theorem kX6_readByWindow_219 : CLV mX6_readByWindow 219 mX0_follow 4 := ⟨⟨q582, q74, q585, ⟨by decide, by decide, by decide +kernel⟩, ⟨Nat.le_of_ble_eq_true rfl, Nat.le_of_ble_eq_true rfl⟩⟩, q583, q584⟩
theorem kX6_readByWindow_173 : CLV mX6_readByWindow 173 mX3_wordAt 1 := ⟨⟨q566, q73, q569, ⟨by decide, by decide, by decide +kernel⟩, ⟨Nat.le_of_ble_eq_true rfl, Nat.le_of_ble_eq_true rfl⟩⟩, q567, q568⟩
theorem kX6_readByWindow_146 : CLV mX6_readByWindow 146 mX0_tagOf 2 := ⟨⟨q495, q74, q322, ⟨by decide, by decide, by decide +kernel⟩, ⟨Nat.le_of_ble_eq_true rfl, Nat.le_of_ble_eq_true rfl⟩⟩, q320, q321⟩
theorem kX6_origins_223 : CLV mX6_origins 223 mX6_endOfSeen 1 := ⟨⟨q606, q69, q609, ⟨by decide, by decide, by decide +kernel⟩, ⟨Nat.le_of_ble_eq_true rfl, Nat.le_of_ble_eq_true rfl⟩⟩, q608, q34⟩
theorem kX6_presentStates_223 : CLV mX6_presentStates 223 mX6_endOfSeen 1 := ⟨⟨q606, q69, q609, ⟨by decide, by decide, by decide +kernel⟩, ⟨Nat.le_of_ble_eq_true rfl, Nat.le_of_ble_eq_true rfl⟩⟩, q608, q34⟩
theorem kX6_endOfSeen_153 : CLV mX6_endOfSeen 153 mX0_isGood 1 := ⟨⟨q504, q74, q507, ⟨by decide, by decide, by decide +kernel⟩, ⟨Nat.le_of_ble_eq_true rfl, Nat.le_of_ble_eq_true rfl⟩⟩, q505, q506⟩
theorem kX6_endOfSeen_219 : CLV mX6_endOfSeen 219 mX0_follow 4 := ⟨⟨q582, q74, q585, ⟨by decide, by decide, by decide +kernel⟩, ⟨Nat.le_of_ble_eq_true rfl, Nat.le_of_ble_eq_true rfl⟩⟩, q583, q584⟩
theorem kX7_init_53 : CLV mX7_init 53 mX7_begins 0 := ⟨⟨q661, q78, q664, ⟨by decide, by decide, by decide +kernel⟩, ⟨Nat.le_of_ble_eq_true rfl, Nat.le_of_ble_eq_true rfl⟩⟩, q663, q37⟩
theorem kX7_begins_56 : CLV mX7_begins 56 mX7_finds 0 := ⟨⟨q665, q78, q668, ⟨by decide, by decide, by decide +kernel⟩, ⟨Nat.le_of_ble_eq_true rfl, Nat.le_of_ble_eq_true rfl⟩⟩, q667, q38⟩
theorem kX7_border_66 : CLV mX7_border 66 mX7_banned 1 := ⟨⟨q692, q78, q695, ⟨by decide, by decide, by decide +kernel⟩, ⟨Nat.le_of_ble_eq_true rfl, Nat.le_of_ble_eq_true rfl⟩⟩, q694, q44⟩
theorem kX7_stepOf_70 : CLS mX7_stepOf 70 mX7_in 3 := ⟨⟨q685, q78, q687, ⟨by decide, by decide, by decide +kernel⟩, ⟨Nat.le_of_ble_eq_true rfl, Nat.le_of_ble_eq_true rfl⟩⟩, q686⟩
theorem kX7_stepOf_74 : CLV mX7_stepOf 74 mX7_border 3 := ⟨⟨q688, q78, q691, ⟨by decide, by decide, by decide +kernel⟩, ⟨Nat.le_of_ble_eq_true rfl, Nat.le_of_ble_eq_true rfl⟩⟩, q690, q43⟩
theorem kX7_lead_78 : CLV mX7_lead 78 mX7_words 0 := ⟨⟨q677, q78, q680, ⟨by decide, by decide, by decide +kernel⟩, ⟨Nat.le_of_ble_eq_true rfl, Nat.le_of_ble_eq_true rfl⟩⟩, q679, q41⟩
theorem kX7_tag_78 : CLV mX7_tag 78 mX7_words 0 := ⟨⟨q677, q78, q680, ⟨by decide, by decide, by decide +kernel⟩, ⟨Nat.le_of_ble_eq_true rfl, Nat.le_of_ble_eq_true rfl⟩⟩, q679, q41⟩
theorem kX7_layArcs_82 : CLV mX7_layArcs 82 mX7_states 0 := ⟨⟨q673, q78, q676, ⟨by decide, by decide, by decide +kernel⟩, ⟨Nat.le_of_ble_eq_true rfl, Nat.le_of_ble_eq_true rfl⟩⟩, q675, q40⟩
theorem kX7_layArcs_78 : CLV mX7_layArcs 78 mX7_words 0 := ⟨⟨q677, q78, q680, ⟨by decide, by decide, by decide +kernel⟩, ⟨Nat.le_of_ble_eq_true rfl, Nat.le_of_ble_eq_true rfl⟩⟩, q679, q41⟩
theorem kX7_layArcs_85 : CLV mX7_layArcs 85 mX7_stepOf 2 := ⟨⟨q681, q78, q684, ⟨by decide, by decide, by decide +kernel⟩, ⟨Nat.le_of_ble_eq_true rfl, Nat.le_of_ble_eq_true rfl⟩⟩, q683, q42⟩
theorem kX7_goodArcs_78 : CLV mX7_goodArcs 78 mX7_words 0 := ⟨⟨q677, q78, q680, ⟨by decide, by decide, by decide +kernel⟩, ⟨Nat.le_of_ble_eq_true rfl, Nat.le_of_ble_eq_true rfl⟩⟩, q679, q41⟩
theorem kX7_goodArcs_89 : CLV mX7_goodArcs 89 mX7_lead 2 := ⟨⟨q700, q78, q703, ⟨by decide, by decide, by decide +kernel⟩, ⟨Nat.le_of_ble_eq_true rfl, Nat.le_of_ble_eq_true rfl⟩⟩, q702, q46⟩
theorem kX7_finds_95 : CLV mX7_finds 95 mX7_layArcs 0 := ⟨⟨q669, q78, q672, ⟨by decide, by decide, by decide +kernel⟩, ⟨Nat.le_of_ble_eq_true rfl, Nat.le_of_ble_eq_true rfl⟩⟩, q671, q39⟩
theorem kX7_finds_82 : CLV mX7_finds 82 mX7_states 0 := ⟨⟨q673, q78, q676, ⟨by decide, by decide, by decide +kernel⟩, ⟨Nat.le_of_ble_eq_true rfl, Nat.le_of_ble_eq_true rfl⟩⟩, q675, q40⟩
theorem kX7_finds_98 : CLV mX7_finds 98 mX7_goodArcs 1 := ⟨⟨q696, q78, q699, ⟨by decide, by decide, by decide +kernel⟩, ⟨Nat.le_of_ble_eq_true rfl, Nat.le_of_ble_eq_true rfl⟩⟩, q698, q45⟩
theorem kX7_finds_78 : CLV mX7_finds 78 mX7_words 0 := ⟨⟨q677, q78, q680, ⟨by decide, by decide, by decide +kernel⟩, ⟨Nat.le_of_ble_eq_true rfl, Nat.le_of_ble_eq_true rfl⟩⟩, q679, q41⟩
theorem kX7_finds_89 : CLV mX7_finds 89 mX7_lead 2 := ⟨⟨q700, q78, q703, ⟨by decide, by decide, by decide +kernel⟩, ⟨Nat.le_of_ble_eq_true rfl, Nat.le_of_ble_eq_true rfl⟩⟩, q702, q46⟩
theorem kX7_type_70 : CLS mX7_type 70 mX7_in 3 := ⟨⟨q685, q78, q687, ⟨by decide, by decide, by decide +kernel⟩, ⟨Nat.le_of_ble_eq_true rfl, Nat.le_of_ble_eq_true rfl⟩⟩, q686⟩
theorem kX7_isFigure_70 : CLS mX7_isFigure 70 mX7_in 3 := ⟨⟨q685, q78, q687, ⟨by decide, by decide, by decide +kernel⟩, ⟨Nat.le_of_ble_eq_true rfl, Nat.le_of_ble_eq_true rfl⟩⟩, q686⟩
theorem kX7_takes_113 : CLV mX7_takes 113 mX7_here 0 := ⟨⟨q795, q78, q798, ⟨by decide, by decide, by decide +kernel⟩, ⟨Nat.le_of_ble_eq_true rfl, Nat.le_of_ble_eq_true rfl⟩⟩, q797, q50⟩
theorem kX7_takesNumber_113 : CLV mX7_takesNumber 113 mX7_here 0 := ⟨⟨q795, q78, q798, ⟨by decide, by decide, by decide +kernel⟩, ⟨Nat.le_of_ble_eq_true rfl, Nat.le_of_ble_eq_true rfl⟩⟩, q797, q50⟩
theorem kX7_takesNumber_116 : CLV mX7_takesNumber 116 mX7_isFigure 1 := ⟨⟨q803, q78, q806, ⟨by decide, by decide, by decide +kernel⟩, ⟨Nat.le_of_ble_eq_true rfl, Nat.le_of_ble_eq_true rfl⟩⟩, q805, q52⟩
theorem kX7_takesNumber_70 : CLS mX7_takesNumber 70 mX7_in 3 := ⟨⟨q685, q78, q687, ⟨by decide, by decide, by decide +kernel⟩, ⟨Nat.le_of_ble_eq_true rfl, Nat.le_of_ble_eq_true rfl⟩⟩, q686⟩
theorem kX7_takesBits_113 : CLV mX7_takesBits 113 mX7_here 0 := ⟨⟨q795, q78, q798, ⟨by decide, by decide, by decide +kernel⟩, ⟨Nat.le_of_ble_eq_true rfl, Nat.le_of_ble_eq_true rfl⟩⟩, q797, q50⟩
theorem kX7_takesBits_116 : CLV mX7_takesBits 116 mX7_isFigure 1 := ⟨⟨q803, q78, q806, ⟨by decide, by decide, by decide +kernel⟩, ⟨Nat.le_of_ble_eq_true rfl, Nat.le_of_ble_eq_true rfl⟩⟩, q805, q52⟩
theorem kX7_takesBan_123 : CLV mX7_takesBan 123 mX7_takes 1 := ⟨⟨q791, q78, q794, ⟨by decide, by decide, by decide +kernel⟩, ⟨Nat.le_of_ble_eq_true rfl, Nat.le_of_ble_eq_true rfl⟩⟩, q793, q49⟩
theorem kX7_takesBan_126 : CLV mX7_takesBan 126 mX7_takesNumber 2 := ⟨⟨q799, q78, q802, ⟨by decide, by decide, by decide +kernel⟩, ⟨Nat.le_of_ble_eq_true rfl, Nat.le_of_ble_eq_true rfl⟩⟩, q801, q51⟩
theorem kX7_takesBan_130 : CLV mX7_takesBan 130 mX7_takesBits 0 := ⟨⟨q809, q78, q812, ⟨by decide, by decide, by decide +kernel⟩, ⟨Nat.le_of_ble_eq_true rfl, Nat.le_of_ble_eq_true rfl⟩⟩, q811, q53⟩
theorem kX7_takesAll_134 : CLV mX7_takesAll 134 mX7_takesBan 0 := ⟨⟨q787, q78, q790, ⟨by decide, by decide, by decide +kernel⟩, ⟨Nat.le_of_ble_eq_true rfl, Nat.le_of_ble_eq_true rfl⟩⟩, q789, q48⟩
theorem kX7_takesAll_123 : CLV mX7_takesAll 123 mX7_takes 1 := ⟨⟨q791, q78, q794, ⟨by decide, by decide, by decide +kernel⟩, ⟨Nat.le_of_ble_eq_true rfl, Nat.le_of_ble_eq_true rfl⟩⟩, q793, q49⟩
theorem kX7_takesAll_113 : CLV mX7_takesAll 113 mX7_here 0 := ⟨⟨q795, q78, q798, ⟨by decide, by decide, by decide +kernel⟩, ⟨Nat.le_of_ble_eq_true rfl, Nat.le_of_ble_eq_true rfl⟩⟩, q797, q50⟩
theorem kX7_takesAll_126 : CLV mX7_takesAll 126 mX7_takesNumber 2 := ⟨⟨q799, q78, q802, ⟨by decide, by decide, by decide +kernel⟩, ⟨Nat.le_of_ble_eq_true rfl, Nat.le_of_ble_eq_true rfl⟩⟩, q801, q51⟩
theorem kX7_tells_137 : CLV mX7_tells 137 mX7_takesAll 0 := ⟨⟨q783, q78, q786, ⟨by decide, by decide, by decide +kernel⟩, ⟨Nat.le_of_ble_eq_true rfl, Nat.le_of_ble_eq_true rfl⟩⟩, q785, q47⟩
theorem kX7_tells_140 : CLV mX7_tells 140 mX7_keepPast 0 := ⟨⟨q813, q78, q816, ⟨by decide, by decide, by decide +kernel⟩, ⟨Nat.le_of_ble_eq_true rfl, Nat.le_of_ble_eq_true rfl⟩⟩, q815, q54⟩
theorem kX7_tells_53 : CLV mX7_tells 53 mX7_begins 0 := ⟨⟨q661, q78, q664, ⟨by decide, by decide, by decide +kernel⟩, ⟨Nat.le_of_ble_eq_true rfl, Nat.le_of_ble_eq_true rfl⟩⟩, q663, q37⟩
theorem kX7_tells_82 : CLV mX7_tells 82 mX7_states 0 := ⟨⟨q673, q78, q676, ⟨by decide, by decide, by decide +kernel⟩, ⟨Nat.le_of_ble_eq_true rfl, Nat.le_of_ble_eq_true rfl⟩⟩, q675, q40⟩
theorem kX7_sends_70 : CLS mX7_sends 70 mX7_in 3 := ⟨⟨q685, q78, q687, ⟨by decide, by decide, by decide +kernel⟩, ⟨Nat.le_of_ble_eq_true rfl, Nat.le_of_ble_eq_true rfl⟩⟩, q686⟩
theorem kX7_sends_56 : CLV mX7_sends 56 mX7_finds 0 := ⟨⟨q665, q78, q668, ⟨by decide, by decide, by decide +kernel⟩, ⟨Nat.le_of_ble_eq_true rfl, Nat.le_of_ble_eq_true rfl⟩⟩, q667, q38⟩
theorem kX7_sends_146 : CLV mX7_sends 146 mX7_wordFor 2 := ⟨⟨q821, q78, q824, ⟨by decide, by decide, by decide +kernel⟩, ⟨Nat.le_of_ble_eq_true rfl, Nat.le_of_ble_eq_true rfl⟩⟩, q823, q55⟩
theorem kX7_sends_140 : CLV mX7_sends 140 mX7_keepPast 0 := ⟨⟨q813, q78, q816, ⟨by decide, by decide, by decide +kernel⟩, ⟨Nat.le_of_ble_eq_true rfl, Nat.le_of_ble_eq_true rfl⟩⟩, q815, q54⟩
theorem kX7_sends_89 : CLV mX7_sends 89 mX7_lead 2 := ⟨⟨q700, q78, q703, ⟨by decide, by decide, by decide +kernel⟩, ⟨Nat.le_of_ble_eq_true rfl, Nat.le_of_ble_eq_true rfl⟩⟩, q702, q46⟩
theorem kX7_wordFor_78 : CLV mX7_wordFor 78 mX7_words 0 := ⟨⟨q677, q78, q680, ⟨by decide, by decide, by decide +kernel⟩, ⟨Nat.le_of_ble_eq_true rfl, Nat.le_of_ble_eq_true rfl⟩⟩, q679, q41⟩
theorem kX7_wordFor_149 : CLV mX7_wordFor 149 mX7_tag 2 := ⟨⟨q825, q78, q828, ⟨by decide, by decide, by decide +kernel⟩, ⟨Nat.le_of_ble_eq_true rfl, Nat.le_of_ble_eq_true rfl⟩⟩, q827, q56⟩
theorem kX7_flips_70 : CLS mX7_flips 70 mX7_in 3 := ⟨⟨q685, q78, q687, ⟨by decide, by decide, by decide +kernel⟩, ⟨Nat.le_of_ble_eq_true rfl, Nat.le_of_ble_eq_true rfl⟩⟩, q686⟩
theorem kX7_flips_140 : CLV mX7_flips 140 mX7_keepPast 0 := ⟨⟨q813, q78, q816, ⟨by decide, by decide, by decide +kernel⟩, ⟨Nat.le_of_ble_eq_true rfl, Nat.le_of_ble_eq_true rfl⟩⟩, q815, q54⟩
theorem kX7_isState_82 : CLV mX7_isState 82 mX7_states 0 := ⟨⟨q673, q78, q676, ⟨by decide, by decide, by decide +kernel⟩, ⟨Nat.le_of_ble_eq_true rfl, Nat.le_of_ble_eq_true rfl⟩⟩, q675, q40⟩
theorem kX7_isState_70 : CLS mX7_isState 70 mX7_in 3 := ⟨⟨q685, q78, q687, ⟨by decide, by decide, by decide +kernel⟩, ⟨Nat.le_of_ble_eq_true rfl, Nat.le_of_ble_eq_true rfl⟩⟩, q686⟩
theorem kX7_step_152 : CLV mX7_step 152 mX7_isState 1 := ⟨⟨q841, q78, q844, ⟨by decide, by decide, by decide +kernel⟩, ⟨Nat.le_of_ble_eq_true rfl, Nat.le_of_ble_eq_true rfl⟩⟩, q843, q57⟩
theorem kX7_step_70 : CLS mX7_step 70 mX7_in 3 := ⟨⟨q685, q78, q687, ⟨by decide, by decide, by decide +kernel⟩, ⟨Nat.le_of_ble_eq_true rfl, Nat.le_of_ble_eq_true rfl⟩⟩, q686⟩
theorem kX7_step_85 : CLV mX7_step 85 mX7_stepOf 2 := ⟨⟨q681, q78, q684, ⟨by decide, by decide, by decide +kernel⟩, ⟨Nat.le_of_ble_eq_true rfl, Nat.le_of_ble_eq_true rfl⟩⟩, q683, q42⟩
theorem kX7_arc_152 : CLV mX7_arc 152 mX7_isState 1 := ⟨⟨q841, q78, q844, ⟨by decide, by decide, by decide +kernel⟩, ⟨Nat.le_of_ble_eq_true rfl, Nat.le_of_ble_eq_true rfl⟩⟩, q843, q57⟩
theorem kX7_arc_78 : CLV mX7_arc 78 mX7_words 0 := ⟨⟨q677, q78, q680, ⟨by decide, by decide, by decide +kernel⟩, ⟨Nat.le_of_ble_eq_true rfl, Nat.le_of_ble_eq_true rfl⟩⟩, q679, q41⟩
theorem kX7_arc_70 : CLS mX7_arc 70 mX7_in 3 := ⟨⟨q685, q78, q687, ⟨by decide, by decide, by decide +kernel⟩, ⟨Nat.le_of_ble_eq_true rfl, Nat.le_of_ble_eq_true rfl⟩⟩, q686⟩
theorem kX7_arc_56 : CLV mX7_arc 56 mX7_finds 0 := ⟨⟨q665, q78, q668, ⟨by decide, by decide, by decide +kernel⟩, ⟨Nat.le_of_ble_eq_true rfl, Nat.le_of_ble_eq_true rfl⟩⟩, q667, q38⟩
theorem kX7_arc_89 : CLV mX7_arc 89 mX7_lead 2 := ⟨⟨q700, q78, q703, ⟨by decide, by decide, by decide +kernel⟩, ⟨Nat.le_of_ble_eq_true rfl, Nat.le_of_ble_eq_true rfl⟩⟩, q702, q46⟩
theorem kX7_arc_149 : CLV mX7_arc 149 mX7_tag 2 := ⟨⟨q825, q78, q828, ⟨by decide, by decide, by decide +kernel⟩, ⟨Nat.le_of_ble_eq_true rfl, Nat.le_of_ble_eq_true rfl⟩⟩, q827, q56⟩
theorem kX7_state_152 : CLV mX7_state 152 mX7_isState 1 := ⟨⟨q841, q78, q844, ⟨by decide, by decide, by decide +kernel⟩, ⟨Nat.le_of_ble_eq_true rfl, Nat.le_of_ble_eq_true rfl⟩⟩, q843, q57⟩
theorem kX7_state_70 : CLS mX7_state 70 mX7_in 3 := ⟨⟨q685, q78, q687, ⟨by decide, by decide, by decide +kernel⟩, ⟨Nat.le_of_ble_eq_true rfl, Nat.le_of_ble_eq_true rfl⟩⟩, q686⟩
theorem kX7_state_56 : CLV mX7_state 56 mX7_finds 0 := ⟨⟨q665, q78, q668, ⟨by decide, by decide, by decide +kernel⟩, ⟨Nat.le_of_ble_eq_true rfl, Nat.le_of_ble_eq_true rfl⟩⟩, q667, q38⟩
theorem kX7_state_78 : CLV mX7_state 78 mX7_words 0 := ⟨⟨q677, q78, q680, ⟨by decide, by decide, by decide +kernel⟩, ⟨Nat.le_of_ble_eq_true rfl, Nat.le_of_ble_eq_true rfl⟩⟩, q679, q41⟩
theorem kX7_state_89 : CLV mX7_state 89 mX7_lead 2 := ⟨⟨q700, q78, q703, ⟨by decide, by decide, by decide +kernel⟩, ⟨Nat.le_of_ble_eq_true rfl, Nat.le_of_ble_eq_true rfl⟩⟩, q702, q46⟩
theorem kX7_weighs_82 : CLV mX7_weighs 82 mX7_states 0 := ⟨⟨q673, q78, q676, ⟨by decide, by decide, by decide +kernel⟩, ⟨Nat.le_of_ble_eq_true rfl, Nat.le_of_ble_eq_true rfl⟩⟩, q675, q40⟩
theorem kX7_weighs_78 : CLV mX7_weighs 78 mX7_words 0 := ⟨⟨q677, q78, q680, ⟨by decide, by decide, by decide +kernel⟩, ⟨Nat.le_of_ble_eq_true rfl, Nat.le_of_ble_eq_true rfl⟩⟩, q679, q41⟩
theorem kX7_weighs_89 : CLV mX7_weighs 89 mX7_lead 2 := ⟨⟨q700, q78, q703, ⟨by decide, by decide, by decide +kernel⟩, ⟨Nat.le_of_ble_eq_true rfl, Nat.le_of_ble_eq_true rfl⟩⟩, q702, q46⟩
theorem kX7_weight_152 : CLV mX7_weight 152 mX7_isState 1 := ⟨⟨q841, q78, q844, ⟨by decide, by decide, by decide +kernel⟩, ⟨Nat.le_of_ble_eq_true rfl, Nat.le_of_ble_eq_true rfl⟩⟩, q843, q57⟩
theorem kX7_weight_70 : CLS mX7_weight 70 mX7_in 3 := ⟨⟨q685, q78, q687, ⟨by decide, by decide, by decide +kernel⟩, ⟨Nat.le_of_ble_eq_true rfl, Nat.le_of_ble_eq_true rfl⟩⟩, q686⟩
theorem kX7_weight_56 : CLV mX7_weight 56 mX7_finds 0 := ⟨⟨q665, q78, q668, ⟨by decide, by decide, by decide +kernel⟩, ⟨Nat.le_of_ble_eq_true rfl, Nat.le_of_ble_eq_true rfl⟩⟩, q667, q38⟩
theorem kX7_weight_157 : CLV mX7_weight 157 mX7_weighs 1 := ⟨⟨q858, q78, q861, ⟨by decide, by decide, by decide +kernel⟩, ⟨Nat.le_of_ble_eq_true rfl, Nat.le_of_ble_eq_true rfl⟩⟩, q860, q58⟩
theorem kX7_weight_82 : CLV mX7_weight 82 mX7_states 0 := ⟨⟨q673, q78, q676, ⟨by decide, by decide, by decide +kernel⟩, ⟨Nat.le_of_ble_eq_true rfl, Nat.le_of_ble_eq_true rfl⟩⟩, q675, q40⟩
theorem kX7_rows_70 : CLS mX7_rows 70 mX7_in 3 := ⟨⟨q685, q78, q687, ⟨by decide, by decide, by decide +kernel⟩, ⟨Nat.le_of_ble_eq_true rfl, Nat.le_of_ble_eq_true rfl⟩⟩, q686⟩
theorem kX7_rows_82 : CLV mX7_rows 82 mX7_states 0 := ⟨⟨q673, q78, q676, ⟨by decide, by decide, by decide +kernel⟩, ⟨Nat.le_of_ble_eq_true rfl, Nat.le_of_ble_eq_true rfl⟩⟩, q675, q40⟩
theorem kX7_rows_163 : CLV mX7_rows 163 mX7_start 0 := ⟨⟨q867, q78, q870, ⟨by decide, by decide, by decide +kernel⟩, ⟨Nat.le_of_ble_eq_true rfl, Nat.le_of_ble_eq_true rfl⟩⟩, q869, q59⟩
theorem kX7_rows_85 : CLV mX7_rows 85 mX7_stepOf 2 := ⟨⟨q681, q78, q684, ⟨by decide, by decide, by decide +kernel⟩, ⟨Nat.le_of_ble_eq_true rfl, Nat.le_of_ble_eq_true rfl⟩⟩, q683, q42⟩
theorem kX7_goOn_149 : CLV mX7_goOn 149 mX7_tag 2 := ⟨⟨q825, q78, q828, ⟨by decide, by decide, by decide +kernel⟩, ⟨Nat.le_of_ble_eq_true rfl, Nat.le_of_ble_eq_true rfl⟩⟩, q827, q56⟩
theorem kX7_goOn_89 : CLV mX7_goOn 89 mX7_lead 2 := ⟨⟨q700, q78, q703, ⟨by decide, by decide, by decide +kernel⟩, ⟨Nat.le_of_ble_eq_true rfl, Nat.le_of_ble_eq_true rfl⟩⟩, q702, q46⟩
theorem kX7_layAlike_78 : CLV mX7_layAlike 78 mX7_words 0 := ⟨⟨q677, q78, q680, ⟨by decide, by decide, by decide +kernel⟩, ⟨Nat.le_of_ble_eq_true rfl, Nat.le_of_ble_eq_true rfl⟩⟩, q679, q41⟩
theorem kX7_layAlike_152 : CLV mX7_layAlike 152 mX7_isState 1 := ⟨⟨q841, q78, q844, ⟨by decide, by decide, by decide +kernel⟩, ⟨Nat.le_of_ble_eq_true rfl, Nat.le_of_ble_eq_true rfl⟩⟩, q843, q57⟩
theorem kX7_layAlike_166 : CLV mX7_layAlike 166 mX7_goOn 4 := ⟨⟨q892, q78, q895, ⟨by decide, by decide, by decide +kernel⟩, ⟨Nat.le_of_ble_eq_true rfl, Nat.le_of_ble_eq_true rfl⟩⟩, q894, q64⟩
theorem kX7_isWide_82 : CLV mX7_isWide 82 mX7_states 0 := ⟨⟨q673, q78, q676, ⟨by decide, by decide, by decide +kernel⟩, ⟨Nat.le_of_ble_eq_true rfl, Nat.le_of_ble_eq_true rfl⟩⟩, q675, q40⟩
theorem kX7_isWide_78 : CLV mX7_isWide 78 mX7_words 0 := ⟨⟨q677, q78, q680, ⟨by decide, by decide, by decide +kernel⟩, ⟨Nat.le_of_ble_eq_true rfl, Nat.le_of_ble_eq_true rfl⟩⟩, q679, q41⟩
theorem kX7_isWide_149 : CLV mX7_isWide 149 mX7_tag 2 := ⟨⟨q825, q78, q828, ⟨by decide, by decide, by decide +kernel⟩, ⟨Nat.le_of_ble_eq_true rfl, Nat.le_of_ble_eq_true rfl⟩⟩, q827, q56⟩
theorem kX7_isWide_166 : CLV mX7_isWide 166 mX7_goOn 4 := ⟨⟨q892, q78, q895, ⟨by decide, by decide, by decide +kernel⟩, ⟨Nat.le_of_ble_eq_true rfl, Nat.le_of_ble_eq_true rfl⟩⟩, q894, q64⟩
theorem kX7_window_170 : CLV mX7_window 170 mX7_layAlike 0 := ⟨⟨q888, q78, q891, ⟨by decide, by decide, by decide +kernel⟩, ⟨Nat.le_of_ble_eq_true rfl, Nat.le_of_ble_eq_true rfl⟩⟩, q890, q63⟩
theorem kX7_window_173 : CLV mX7_window 173 mX7_isWide 1 := ⟨⟨q896, q78, q899, ⟨by decide, by decide, by decide +kernel⟩, ⟨Nat.le_of_ble_eq_true rfl, Nat.le_of_ble_eq_true rfl⟩⟩, q898, q65⟩
theorem kX7_byStates_149 : CLV mX7_byStates 149 mX7_tag 2 := ⟨⟨q825, q78, q828, ⟨by decide, by decide, by decide +kernel⟩, ⟨Nat.le_of_ble_eq_true rfl, Nat.le_of_ble_eq_true rfl⟩⟩, q827, q56⟩
theorem kX7_byStates_89 : CLV mX7_byStates 89 mX7_lead 2 := ⟨⟨q700, q78, q703, ⟨by decide, by decide, by decide +kernel⟩, ⟨Nat.le_of_ble_eq_true rfl, Nat.le_of_ble_eq_true rfl⟩⟩, q702, q46⟩
theorem kX7_byWindow_176 : CLV mX7_byWindow 176 mX7_window 0 := ⟨⟨q884, q78, q887, ⟨by decide, by decide, by decide +kernel⟩, ⟨Nat.le_of_ble_eq_true rfl, Nat.le_of_ble_eq_true rfl⟩⟩, q886, q62⟩
theorem kX7_byWindow_82 : CLV mX7_byWindow 82 mX7_states 0 := ⟨⟨q673, q78, q676, ⟨by decide, by decide, by decide +kernel⟩, ⟨Nat.le_of_ble_eq_true rfl, Nat.le_of_ble_eq_true rfl⟩⟩, q675, q40⟩
theorem kX7_byWindow_149 : CLV mX7_byWindow 149 mX7_tag 2 := ⟨⟨q825, q78, q828, ⟨by decide, by decide, by decide +kernel⟩, ⟨Nat.le_of_ble_eq_true rfl, Nat.le_of_ble_eq_true rfl⟩⟩, q827, q56⟩
theorem kX7_byWindow_89 : CLV mX7_byWindow 89 mX7_lead 2 := ⟨⟨q700, q78, q703, ⟨by decide, by decide, by decide +kernel⟩, ⟨Nat.le_of_ble_eq_true rfl, Nat.le_of_ble_eq_true rfl⟩⟩, q702, q46⟩
theorem kX7_word_70 : CLS mX7_word 70 mX7_in 3 := ⟨⟨q685, q78, q687, ⟨by decide, by decide, by decide +kernel⟩, ⟨Nat.le_of_ble_eq_true rfl, Nat.le_of_ble_eq_true rfl⟩⟩, q686⟩
theorem kX7_word_56 : CLV mX7_word 56 mX7_finds 0 := ⟨⟨q665, q78, q668, ⟨by decide, by decide, by decide +kernel⟩, ⟨Nat.le_of_ble_eq_true rfl, Nat.le_of_ble_eq_true rfl⟩⟩, q667, q38⟩
theorem kX7_word_181 : CLV mX7_word 181 mX7_byStates 1 := ⟨⟨q876, q78, q879, ⟨by decide, by decide, by decide +kernel⟩, ⟨Nat.le_of_ble_eq_true rfl, Nat.le_of_ble_eq_true rfl⟩⟩, q878, q60⟩
theorem kX7_word_184 : CLV mX7_word 184 mX7_byWindow 1 := ⟨⟨q880, q78, q883, ⟨by decide, by decide, by decide +kernel⟩, ⟨Nat.le_of_ble_eq_true rfl, Nat.le_of_ble_eq_true rfl⟩⟩, q882, q61⟩
theorem kX7_wrong_70 : CLS mX7_wrong 70 mX7_in 3 := ⟨⟨q685, q78, q687, ⟨by decide, by decide, by decide +kernel⟩, ⟨Nat.le_of_ble_eq_true rfl, Nat.le_of_ble_eq_true rfl⟩⟩, q686⟩
theorem kX7_wrong_56 : CLV mX7_wrong 56 mX7_finds 0 := ⟨⟨q665, q78, q668, ⟨by decide, by decide, by decide +kernel⟩, ⟨Nat.le_of_ble_eq_true rfl, Nat.le_of_ble_eq_true rfl⟩⟩, q667, q38⟩
theorem kX7_wrong_181 : CLV mX7_wrong 181 mX7_byStates 1 := ⟨⟨q876, q78, q879, ⟨by decide, by decide, by decide +kernel⟩, ⟨Nat.le_of_ble_eq_true rfl, Nat.le_of_ble_eq_true rfl⟩⟩, q878, q60⟩
theorem kX7_wrong_184 : CLV mX7_wrong 184 mX7_byWindow 1 := ⟨⟨q880, q78, q883, ⟨by decide, by decide, by decide +kernel⟩, ⟨Nat.le_of_ble_eq_true rfl, Nat.le_of_ble_eq_true rfl⟩⟩, q882, q61⟩
theorem kX7_sees_78 : CLV mX7_sees 78 mX7_words 0 := ⟨⟨q677, q78, q680, ⟨by decide, by decide, by decide +kernel⟩, ⟨Nat.le_of_ble_eq_true rfl, Nat.le_of_ble_eq_true rfl⟩⟩, q679, q41⟩
theorem kX7_sees_70 : CLS mX7_sees 70 mX7_in 3 := ⟨⟨q685, q78, q687, ⟨by decide, by decide, by decide +kernel⟩, ⟨Nat.le_of_ble_eq_true rfl, Nat.le_of_ble_eq_true rfl⟩⟩, q686⟩
theorem kX7_statesBySeen_82 : CLV mX7_statesBySeen 82 mX7_states 0 := ⟨⟨q673, q78, q676, ⟨by decide, by decide, by decide +kernel⟩, ⟨Nat.le_of_ble_eq_true rfl, Nat.le_of_ble_eq_true rfl⟩⟩, q675, q40⟩
theorem kX7_statesBySeen_149 : CLV mX7_statesBySeen 149 mX7_tag 2 := ⟨⟨q825, q78, q828, ⟨by decide, by decide, by decide +kernel⟩, ⟨Nat.le_of_ble_eq_true rfl, Nat.le_of_ble_eq_true rfl⟩⟩, q827, q56⟩
theorem kX7_statesBySeen_89 : CLV mX7_statesBySeen 89 mX7_lead 2 := ⟨⟨q700, q78, q703, ⟨by decide, by decide, by decide +kernel⟩, ⟨Nat.le_of_ble_eq_true rfl, Nat.le_of_ble_eq_true rfl⟩⟩, q702, q46⟩
theorem kX7_which_70 : CLS mX7_which 70 mX7_in 3 := ⟨⟨q685, q78, q687, ⟨by decide, by decide, by decide +kernel⟩, ⟨Nat.le_of_ble_eq_true rfl, Nat.le_of_ble_eq_true rfl⟩⟩, q686⟩
theorem kX7_which_56 : CLV mX7_which 56 mX7_finds 0 := ⟨⟨q665, q78, q668, ⟨by decide, by decide, by decide +kernel⟩, ⟨Nat.le_of_ble_eq_true rfl, Nat.le_of_ble_eq_true rfl⟩⟩, q667, q38⟩
theorem kX7_which_187 : CLV mX7_which 187 mX7_statesBySeen 1 := ⟨⟨q916, q78, q919, ⟨by decide, by decide, by decide +kernel⟩, ⟨Nat.le_of_ble_eq_true rfl, Nat.le_of_ble_eq_true rfl⟩⟩, q918, q66⟩
theorem kX7_ask_56 : CLV mX7_ask 56 mX7_finds 0 := ⟨⟨q665, q78, q668, ⟨by decide, by decide, by decide +kernel⟩, ⟨Nat.le_of_ble_eq_true rfl, Nat.le_of_ble_eq_true rfl⟩⟩, q667, q38⟩
theorem kX7_ask_187 : CLV mX7_ask 187 mX7_statesBySeen 1 := ⟨⟨q916, q78, q919, ⟨by decide, by decide, by decide +kernel⟩, ⟨Nat.le_of_ble_eq_true rfl, Nat.le_of_ble_eq_true rfl⟩⟩, q918, q66⟩
theorem kX7_ask_78 : CLV mX7_ask 78 mX7_words 0 := ⟨⟨q677, q78, q680, ⟨by decide, by decide, by decide +kernel⟩, ⟨Nat.le_of_ble_eq_true rfl, Nat.le_of_ble_eq_true rfl⟩⟩, q679, q41⟩
theorem kX7_ask_82 : CLV mX7_ask 82 mX7_states 0 := ⟨⟨q673, q78, q676, ⟨by decide, by decide, by decide +kernel⟩, ⟨Nat.le_of_ble_eq_true rfl, Nat.le_of_ble_eq_true rfl⟩⟩, q675, q40⟩
theorem kX7_ask_149 : CLV mX7_ask 149 mX7_tag 2 := ⟨⟨q825, q78, q828, ⟨by decide, by decide, by decide +kernel⟩, ⟨Nat.le_of_ble_eq_true rfl, Nat.le_of_ble_eq_true rfl⟩⟩, q827, q56⟩
theorem kX7_keep_70 : CLS mX7_keep 70 mX7_in 3 := ⟨⟨q685, q78, q687, ⟨by decide, by decide, by decide +kernel⟩, ⟨Nat.le_of_ble_eq_true rfl, Nat.le_of_ble_eq_true rfl⟩⟩, q686⟩
theorem kX7_back_70 : CLS mX7_back 70 mX7_in 3 := ⟨⟨q685, q78, q687, ⟨by decide, by decide, by decide +kernel⟩, ⟨Nat.le_of_ble_eq_true rfl, Nat.le_of_ble_eq_true rfl⟩⟩, q686⟩
theorem kX7_count_70 : CLS mX7_count 70 mX7_in 3 := ⟨⟨q685, q78, q687, ⟨by decide, by decide, by decide +kernel⟩, ⟨Nat.le_of_ble_eq_true rfl, Nat.le_of_ble_eq_true rfl⟩⟩, q686⟩
theorem kX7_count_56 : CLV mX7_count 56 mX7_finds 0 := ⟨⟨q665, q78, q668, ⟨by decide, by decide, by decide +kernel⟩, ⟨Nat.le_of_ble_eq_true rfl, Nat.le_of_ble_eq_true rfl⟩⟩, q667, q38⟩
theorem kX7_count_82 : CLV mX7_count 82 mX7_states 0 := ⟨⟨q673, q78, q676, ⟨by decide, by decide, by decide +kernel⟩, ⟨Nat.le_of_ble_eq_true rfl, Nat.le_of_ble_eq_true rfl⟩⟩, q675, q40⟩
theorem kX7_count_163 : CLV mX7_count 163 mX7_start 0 := ⟨⟨q867, q78, q870, ⟨by decide, by decide, by decide +kernel⟩, ⟨Nat.le_of_ble_eq_true rfl, Nat.le_of_ble_eq_true rfl⟩⟩, q869, q59⟩
theorem kX7_count_176 : CLV mX7_count 176 mX7_window 0 := ⟨⟨q884, q78, q887, ⟨by decide, by decide, by decide +kernel⟩, ⟨Nat.le_of_ble_eq_true rfl, Nat.le_of_ble_eq_true rfl⟩⟩, q886, q62⟩
theorem kX7_count_193 : CLV mX7_count 193 mX7_otherBits 0 := ⟨⟨q937, q78, q940, ⟨by decide, by decide, by decide +kernel⟩, ⟨Nat.le_of_ble_eq_true rfl, Nat.le_of_ble_eq_true rfl⟩⟩, q939, q67⟩
theorem kL_law_9 : CLI mL_law 9 mX6_init 0 := ⟨⟨q82, q69, q84, ⟨by decide, by decide, by decide +kernel⟩, ⟨Nat.le_of_ble_eq_true rfl, Nat.le_of_ble_eq_true rfl⟩⟩, q83, rfl⟩
theorem kL_law_12 : CLI mL_law 12 mX7_init 0 := ⟨⟨q657, q78, q659, ⟨by decide, by decide, by decide +kernel⟩, ⟨Nat.le_of_ble_eq_true rfl, Nat.le_of_ble_eq_true rfl⟩⟩, q658, rfl⟩
theorem kL_law_13 : CLV mL_law 13 mX6_type 1 := ⟨⟨q369, q69, q372, ⟨by decide, by decide, by decide +kernel⟩, ⟨Nat.le_of_ble_eq_true rfl, Nat.le_of_ble_eq_true rfl⟩⟩, q370, q371⟩
theorem kL_law_17 : CLV mL_law 17 mX7_type 1 := ⟨⟨q770, q78, q773, ⟨by decide, by decide, by decide +kernel⟩, ⟨Nat.le_of_ble_eq_true rfl, Nat.le_of_ble_eq_true rfl⟩⟩, q771, q772⟩
theorem kL_law_18 : CLV mL_law 18 mX6_clear 0 := ⟨⟨q377, q69, q380, ⟨by decide, by decide, by decide +kernel⟩, ⟨Nat.le_of_ble_eq_true rfl, Nat.le_of_ble_eq_true rfl⟩⟩, q378, q379⟩
theorem kL_law_22 : CLV mL_law 22 mX7_clear 0 := ⟨⟨q775, q78, q778, ⟨by decide, by decide, by decide +kernel⟩, ⟨Nat.le_of_ble_eq_true rfl, Nat.le_of_ble_eq_true rfl⟩⟩, q776, q777⟩
theorem kL_law_23 : CLV mL_law 23 mX6_tells 0 := ⟨⟨q381, q69, q384, ⟨by decide, by decide, by decide +kernel⟩, ⟨Nat.le_of_ble_eq_true rfl, Nat.le_of_ble_eq_true rfl⟩⟩, q382, q383⟩
theorem kL_law_26 : CLV mL_law 26 mX7_tells 0 := ⟨⟨q779, q78, q782, ⟨by decide, by decide, by decide +kernel⟩, ⟨Nat.le_of_ble_eq_true rfl, Nat.le_of_ble_eq_true rfl⟩⟩, q780, q781⟩
theorem kL_law_27 : CLV mL_law 27 mX6_sends 1 := ⟨⟨q447, q69, q450, ⟨by decide, by decide, by decide +kernel⟩, ⟨Nat.le_of_ble_eq_true rfl, Nat.le_of_ble_eq_true rfl⟩⟩, q448, q449⟩
theorem kL_law_30 : CLV mL_law 30 mX7_sends 1 := ⟨⟨q817, q78, q820, ⟨by decide, by decide, by decide +kernel⟩, ⟨Nat.le_of_ble_eq_true rfl, Nat.le_of_ble_eq_true rfl⟩⟩, q818, q819⟩
theorem kL_law_31 : CLV mL_law 31 mX6_flips 1 := ⟨⟨q461, q69, q464, ⟨by decide, by decide, by decide +kernel⟩, ⟨Nat.le_of_ble_eq_true rfl, Nat.le_of_ble_eq_true rfl⟩⟩, q462, q463⟩
theorem kL_law_34 : CLV mL_law 34 mX7_flips 1 := ⟨⟨q829, q78, q832, ⟨by decide, by decide, by decide +kernel⟩, ⟨Nat.le_of_ble_eq_true rfl, Nat.le_of_ble_eq_true rfl⟩⟩, q830, q831⟩
theorem kL_law_35 : CLV mL_law 35 mX6_undo 0 := ⟨⟨q469, q69, q472, ⟨by decide, by decide, by decide +kernel⟩, ⟨Nat.le_of_ble_eq_true rfl, Nat.le_of_ble_eq_true rfl⟩⟩, q470, q471⟩
theorem kL_law_38 : CLV mL_law 38 mX7_undo 0 := ⟨⟨q833, q78, q836, ⟨by decide, by decide, by decide +kernel⟩, ⟨Nat.le_of_ble_eq_true rfl, Nat.le_of_ble_eq_true rfl⟩⟩, q834, q835⟩
theorem kL_law_39 : CLV mL_law 39 mX6_step 2 := ⟨⟨q477, q69, q480, ⟨by decide, by decide, by decide +kernel⟩, ⟨Nat.le_of_ble_eq_true rfl, Nat.le_of_ble_eq_true rfl⟩⟩, q478, q479⟩
theorem kL_law_43 : CLV mL_law 43 mX7_step 2 := ⟨⟨q837, q78, q840, ⟨by decide, by decide, by decide +kernel⟩, ⟨Nat.le_of_ble_eq_true rfl, Nat.le_of_ble_eq_true rfl⟩⟩, q838, q839⟩
theorem kL_law_44 : CLV mL_law 44 mX6_arc 3 := ⟨⟨q486, q69, q489, ⟨by decide, by decide, by decide +kernel⟩, ⟨Nat.le_of_ble_eq_true rfl, Nat.le_of_ble_eq_true rfl⟩⟩, q487, q488⟩
theorem kL_law_48 : CLV mL_law 48 mX7_arc 3 := ⟨⟨q845, q78, q848, ⟨by decide, by decide, by decide +kernel⟩, ⟨Nat.le_of_ble_eq_true rfl, Nat.le_of_ble_eq_true rfl⟩⟩, q846, q847⟩
theorem kL_law_49 : CLV mL_law 49 mX6_state 2 := ⟨⟨q496, q69, q499, ⟨by decide, by decide, by decide +kernel⟩, ⟨Nat.le_of_ble_eq_true rfl, Nat.le_of_ble_eq_true rfl⟩⟩, q497, q498⟩
theorem kL_law_52 : CLV mL_law 52 mX7_state 2 := ⟨⟨q849, q78, q852, ⟨by decide, by decide, by decide +kernel⟩, ⟨Nat.le_of_ble_eq_true rfl, Nat.le_of_ble_eq_true rfl⟩⟩, q850, q851⟩
theorem kL_law_53 : CLV mL_law 53 mX6_weight 3 := ⟨⟨q508, q69, q511, ⟨by decide, by decide, by decide +kernel⟩, ⟨Nat.le_of_ble_eq_true rfl, Nat.le_of_ble_eq_true rfl⟩⟩, q509, q510⟩
theorem kL_law_56 : CLV mL_law 56 mX7_weight 3 := ⟨⟨q853, q78, q856, ⟨by decide, by decide, by decide +kernel⟩, ⟨Nat.le_of_ble_eq_true rfl, Nat.le_of_ble_eq_true rfl⟩⟩, q854, q855⟩
theorem kL_law_57 : CLV mL_law 57 mX6_rows 1 := ⟨⟨q544, q69, q547, ⟨by decide, by decide, by decide +kernel⟩, ⟨Nat.le_of_ble_eq_true rfl, Nat.le_of_ble_eq_true rfl⟩⟩, q545, q546⟩
theorem kL_law_60 : CLV mL_law 60 mX7_rows 1 := ⟨⟨q862, q78, q865, ⟨by decide, by decide, by decide +kernel⟩, ⟨Nat.le_of_ble_eq_true rfl, Nat.le_of_ble_eq_true rfl⟩⟩, q863, q864⟩
theorem kL_law_61 : CLV mL_law 61 mX6_word 2 := ⟨⟨q562, q69, q565, ⟨by decide, by decide, by decide +kernel⟩, ⟨Nat.le_of_ble_eq_true rfl, Nat.le_of_ble_eq_true rfl⟩⟩, q563, q564⟩
theorem kL_law_64 : CLV mL_law 64 mX7_word 2 := ⟨⟨q871, q78, q874, ⟨by decide, by decide, by decide +kernel⟩, ⟨Nat.le_of_ble_eq_true rfl, Nat.le_of_ble_eq_true rfl⟩⟩, q872, q873⟩
theorem kL_law_65 : CLV mL_law 65 mX6_wrong 1 := ⟨⟨q586, q69, q589, ⟨by decide, by decide, by decide +kernel⟩, ⟨Nat.le_of_ble_eq_true rfl, Nat.le_of_ble_eq_true rfl⟩⟩, q587, q588⟩
theorem kL_law_68 : CLV mL_law 68 mX7_wrong 1 := ⟨⟨q900, q78, q903, ⟨by decide, by decide, by decide +kernel⟩, ⟨Nat.le_of_ble_eq_true rfl, Nat.le_of_ble_eq_true rfl⟩⟩, q901, q902⟩
theorem kL_law_69 : CLV mL_law 69 mX6_sees 1 := ⟨⟨q590, q69, q593, ⟨by decide, by decide, by decide +kernel⟩, ⟨Nat.le_of_ble_eq_true rfl, Nat.le_of_ble_eq_true rfl⟩⟩, q591, q592⟩
theorem kL_law_72 : CLV mL_law 72 mX7_sees 1 := ⟨⟨q904, q78, q907, ⟨by decide, by decide, by decide +kernel⟩, ⟨Nat.le_of_ble_eq_true rfl, Nat.le_of_ble_eq_true rfl⟩⟩, q905, q906⟩
theorem kL_law_73 : CLV mL_law 73 mX6_forget 0 := ⟨⟨q594, q69, q597, ⟨by decide, by decide, by decide +kernel⟩, ⟨Nat.le_of_ble_eq_true rfl, Nat.le_of_ble_eq_true rfl⟩⟩, q595, q596⟩
theorem kL_law_76 : CLV mL_law 76 mX7_forget 0 := ⟨⟨q908, q78, q911, ⟨by decide, by decide, by decide +kernel⟩, ⟨Nat.le_of_ble_eq_true rfl, Nat.le_of_ble_eq_true rfl⟩⟩, q909, q910⟩
theorem kL_law_77 : CLV mL_law 77 mX6_which 1 := ⟨⟨q598, q69, q601, ⟨by decide, by decide, by decide +kernel⟩, ⟨Nat.le_of_ble_eq_true rfl, Nat.le_of_ble_eq_true rfl⟩⟩, q599, q600⟩
theorem kL_law_80 : CLV mL_law 80 mX7_which 1 := ⟨⟨q912, q78, q915, ⟨by decide, by decide, by decide +kernel⟩, ⟨Nat.le_of_ble_eq_true rfl, Nat.le_of_ble_eq_true rfl⟩⟩, q913, q914⟩
theorem kL_law_81 : CLV mL_law 81 mX6_ask 0 := ⟨⟨q614, q69, q617, ⟨by decide, by decide, by decide +kernel⟩, ⟨Nat.le_of_ble_eq_true rfl, Nat.le_of_ble_eq_true rfl⟩⟩, q615, q616⟩
theorem kL_law_84 : CLV mL_law 84 mX7_ask 0 := ⟨⟨q920, q78, q923, ⟨by decide, by decide, by decide +kernel⟩, ⟨Nat.le_of_ble_eq_true rfl, Nat.le_of_ble_eq_true rfl⟩⟩, q921, q922⟩
theorem kL_law_85 : CLV mL_law 85 mX6_keep 1 := ⟨⟨q634, q69, q637, ⟨by decide, by decide, by decide +kernel⟩, ⟨Nat.le_of_ble_eq_true rfl, Nat.le_of_ble_eq_true rfl⟩⟩, q635, q636⟩
theorem kL_law_88 : CLV mL_law 88 mX7_keep 1 := ⟨⟨q924, q78, q927, ⟨by decide, by decide, by decide +kernel⟩, ⟨Nat.le_of_ble_eq_true rfl, Nat.le_of_ble_eq_true rfl⟩⟩, q925, q926⟩
theorem kL_law_89 : CLV mL_law 89 mX6_back 1 := ⟨⟨q641, q69, q644, ⟨by decide, by decide, by decide +kernel⟩, ⟨Nat.le_of_ble_eq_true rfl, Nat.le_of_ble_eq_true rfl⟩⟩, q642, q643⟩
theorem kL_law_92 : CLV mL_law 92 mX7_back 1 := ⟨⟨q928, q78, q931, ⟨by decide, by decide, by decide +kernel⟩, ⟨Nat.le_of_ble_eq_true rfl, Nat.le_of_ble_eq_true rfl⟩⟩, q929, q930⟩
theorem kL_law_93 : CLV mL_law 93 mX6_count 1 := ⟨⟨q645, q69, q648, ⟨by decide, by decide, by decide +kernel⟩, ⟨Nat.le_of_ble_eq_true rfl, Nat.le_of_ble_eq_true rfl⟩⟩, q646, q647⟩
theorem kL_law_96 : CLV mL_law 96 mX7_count 1 := ⟨⟨q932, q78, q935, ⟨by decide, by decide, by decide +kernel⟩, ⟨Nat.le_of_ble_eq_true rfl, Nat.le_of_ble_eq_true rfl⟩⟩, q933, q934⟩
