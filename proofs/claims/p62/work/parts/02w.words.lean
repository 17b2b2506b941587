def gl_ : List Cond := lw_tbl.filter goodWord
theorem wg_ {w : Cond} (i : Nat) (h : lw_tbl[i]? = some w) (hg : goodWord w = true) : w ∈ gl_ := List.mem_filter.mpr ⟨List.mem_of_getElem? h, hg⟩
set_option maxRecDepth 100000 in
theorem wl_X0_103 : Cond.methodLink RX0 103 yX0_markReason ∈ gl_ := wg_ 707 (by decide +kernel) rfl
set_option maxRecDepth 100000 in
theorem wl_X0_107 : Cond.methodLink RX0 107 yX1_dayOn ∈ gl_ := wg_ 703 (by decide +kernel) rfl
set_option maxRecDepth 100000 in
theorem wl_X0_111 : Cond.methodLink RX0 111 yX0_allFight ∈ gl_ := wg_ 775 (by decide +kernel) rfl
set_option maxRecDepth 100000 in
theorem wl_X0_115 : Cond.methodLink RX0 115 yX0_monthDay ∈ gl_ := wg_ 1012 (by decide +kernel) rfl
set_option maxRecDepth 100000 in
theorem wl_X0_118 : Cond.methodLink RX0 118 yX0_part ∈ gl_ := wg_ 1013 (by decide +kernel) rfl
set_option maxRecDepth 100000 in
theorem wl_X0_121 : Cond.methodLink RX0 121 yX0_aloneOn ∈ gl_ := wg_ 1042 (by decide +kernel) rfl
set_option maxRecDepth 100000 in
theorem wl_X0_124 : Cond.methodLink RX0 124 yJ9_min_7cf53 ∈ gl_ := wg_ 1054 (by decide +kernel) rfl
set_option maxRecDepth 100000 in
theorem wl_X0_129 : Cond.methodLink RX0 129 yX0_daysAlone ∈ gl_ := wg_ 1055 (by decide +kernel) rfl
set_option maxRecDepth 100000 in
theorem wl_X0_47 : Cond.methodLink RX0 47 yJ7_fill_031fb ∈ gl_ := wg_ 687 (by decide +kernel) rfl
set_option maxRecDepth 100000 in
theorem wl_X0_57 : Cond.methodLink RX0 57 yX0_fillDates ∈ gl_ := wg_ 690 (by decide +kernel) rfl
set_option maxRecDepth 100000 in
theorem wl_X0_61 : Cond.methodLink RX0 61 yX0_fillReasons ∈ gl_ := wg_ 695 (by decide +kernel) rfl
set_option maxRecDepth 100000 in
theorem wl_X0_65 : Cond.methodLink RX0 65 yX0_fillFighters ∈ gl_ := wg_ 711 (by decide +kernel) rfl
set_option maxRecDepth 100000 in
theorem wl_X0_69 : Cond.methodLink RX0 69 yX1_lengthIn ∈ gl_ := wg_ 694 (by decide +kernel) rfl
set_option maxRecDepth 100000 in
theorem wl_X0_93 : Cond.methodLink RX0 93 yX0_markFeast ∈ gl_ := wg_ 699 (by decide +kernel) rfl
set_option maxRecDepth 100000 in
theorem wl_X1_46 : Cond.methodLink RX1 46 yX1_isLeapYear ∈ gl_ := wg_ 656 (by decide +kernel) rfl
set_option maxRecDepth 100000 in
theorem wl_X2_25 : Cond.methodLink RX2 25 yX4_areSmall ∈ gl_ := wg_ 890 (by decide +kernel) rfl
set_option maxRecDepth 100000 in
theorem wl_X2_33 : Cond.methodLink RX2 33 yX9_dayOfDate ∈ gl_ := wg_ 895 (by decide +kernel) rfl
set_option maxRecDepth 100000 in
theorem wl_X2_39 : Cond.methodLink RX2 39 yJ9_min_7cf53 ∈ gl_ := wg_ 916 (by decide +kernel) rfl
set_option maxRecDepth 100000 in
theorem wl_X2_45 : Cond.methodLink RX2 45 yJ9_max_7cf53 ∈ gl_ := wg_ 917 (by decide +kernel) rfl
set_option maxRecDepth 100000 in
theorem wl_X2_48 : Cond.methodLink RX2 48 yX0_part ∈ gl_ := wg_ 928 (by decide +kernel) rfl
set_option maxRecDepth 100000 in
theorem wl_X3_103 : Cond.methodLink RX3 103 yX3_needNumber ∈ gl_ := wg_ 569 (by decide +kernel) rfl
set_option maxRecDepth 100000 in
theorem wl_X3_113 : Cond.methodLink RX3 113 yX1_clear ∈ gl_ := wg_ 582 (by decide +kernel) rfl
set_option maxRecDepth 100000 in
theorem wl_X3_130 : Cond.methodLink RX3 130 yX3_readMonths ∈ gl_ := wg_ 590 (by decide +kernel) rfl
set_option maxRecDepth 100000 in
theorem wl_X3_150 : Cond.methodLink RX3 150 yX1_appendMonth ∈ gl_ := wg_ 594 (by decide +kernel) rfl
set_option maxRecDepth 100000 in
theorem wl_X3_159 : Cond.methodLink RX3 159 yX9_insertFeast ∈ gl_ := wg_ 607 (by decide +kernel) rfl
set_option maxRecDepth 100000 in
theorem wl_X3_165 : Cond.methodLink RX3 165 yX9_appendTruce ∈ gl_ := wg_ 620 (by decide +kernel) rfl
set_option maxRecDepth 100000 in
theorem wl_X3_169 : Cond.methodLink RX3 169 yJ0_length_8abf5 ∈ gl_ := wg_ 508 (by decide +kernel) rfl
set_option maxRecDepth 100000 in
theorem wl_X3_175 : Cond.methodLink RX3 175 yJ0_charAt_5068e ∈ gl_ := wg_ 518 (by decide +kernel) rfl
set_option maxRecDepth 100000 in
theorem wl_X3_41 : Cond.methodLink RX3 41 yX9_clear ∈ gl_ := wg_ 490 (by decide +kernel) rfl
set_option maxRecDepth 100000 in
theorem wl_X3_46 : Cond.methodLink RX3 46 yX3_step ∈ gl_ := wg_ 494 (by decide +kernel) rfl
set_option maxRecDepth 100000 in
theorem wl_X3_49 : Cond.methodLink RX3 49 yX3_readLine ∈ gl_ := wg_ 499 (by decide +kernel) rfl
set_option maxRecDepth 100000 in
theorem wl_X3_58 : Cond.methodLink RX3 58 yX3_isWord ∈ gl_ := wg_ 504 (by decide +kernel) rfl
set_option maxRecDepth 100000 in
theorem wl_X3_62 : Cond.methodLink RX3 62 yX3_readRain ∈ gl_ := wg_ 556 (by decide +kernel) rfl
set_option maxRecDepth 100000 in
theorem wl_X3_70 : Cond.methodLink RX3 70 yX3_startLine ∈ gl_ := wg_ 574 (by decide +kernel) rfl
set_option maxRecDepth 100000 in
theorem wl_X3_74 : Cond.methodLink RX3 74 yX3_readLand ∈ gl_ := wg_ 578 (by decide +kernel) rfl
set_option maxRecDepth 100000 in
theorem wl_X3_82 : Cond.methodLink RX3 82 yX3_readFeast ∈ gl_ := wg_ 602 (by decide +kernel) rfl
set_option maxRecDepth 100000 in
theorem wl_X3_90 : Cond.methodLink RX3 90 yX3_readTruce ∈ gl_ := wg_ 615 (by decide +kernel) rfl
set_option maxRecDepth 100000 in
theorem wl_X3_93 : Cond.methodLink RX3 93 yX3_refuse ∈ gl_ := wg_ 565 (by decide +kernel) rfl
set_option maxRecDepth 100000 in
theorem wl_X3_99 : Cond.methodLink RX3 99 yX3_needWord ∈ gl_ := wg_ 561 (by decide +kernel) rfl
set_option maxRecDepth 100000 in
theorem wl_X4_26 : Cond.methodLink RX4 26 yJ7_fill_d0a16 ∈ gl_ := wg_ 1205 (by decide +kernel) rfl
set_option maxRecDepth 100000 in
theorem wl_X5_23 : Cond.methodLink RX5 23 yX1_dayOn ∈ gl_ := wg_ 847 (by decide +kernel) rfl
set_option maxRecDepth 100000 in
theorem wl_X5_29 : Cond.methodLink RX5 29 yX1_lengthIn ∈ gl_ := wg_ 848 (by decide +kernel) rfl
set_option maxRecDepth 100000 in
theorem wl_X5_33 : Cond.methodLink RX5 33 yX5_openDays ∈ gl_ := wg_ 849 (by decide +kernel) rfl
set_option maxRecDepth 100000 in
theorem wl_X5_41 : Cond.methodLink RX5 41 yX5_cover ∈ gl_ := wg_ 854 (by decide +kernel) rfl
set_option maxRecDepth 100000 in
theorem wl_X5_45 : Cond.methodLink RX5 45 yX0_part ∈ gl_ := wg_ 853 (by decide +kernel) rfl
set_option maxRecDepth 100000 in
theorem wl_X5_50 : Cond.methodLink RX5 50 yJ9_min_7cf53 ∈ gl_ := wg_ 858 (by decide +kernel) rfl
set_option maxRecDepth 100000 in
theorem wl_X6_37 : Cond.methodLink RX6 37 yX6_fitsAll ∈ gl_ := wg_ 946 (by decide +kernel) rfl
set_option maxRecDepth 100000 in
theorem wl_X6_41 : Cond.methodLink RX6 41 yX0_part ∈ gl_ := wg_ 950 (by decide +kernel) rfl
set_option maxRecDepth 100000 in
theorem wl_X6_51 : Cond.methodLink RX6 51 yX6_tryQuestion ∈ gl_ := wg_ 975 (by decide +kernel) rfl
set_option maxRecDepth 100000 in
theorem wl_X6_55 : Cond.methodLink RX6 55 yJ7_fill_53178 ∈ gl_ := wg_ 979 (by decide +kernel) rfl
set_option maxRecDepth 100000 in
theorem wl_X6_61 : Cond.methodLink RX6 61 yJ9_max_7cf53 ∈ gl_ := wg_ 982 (by decide +kernel) rfl
set_option maxRecDepth 100000 in
theorem wl_X7_28 : Cond.methodLink RX7 28 yX7_listTurns ∈ gl_ := wg_ 1069 (by decide +kernel) rfl
set_option maxRecDepth 100000 in
theorem wl_X7_32 : Cond.methodLink RX7 32 yX7_bestTake ∈ gl_ := wg_ 1074 (by decide +kernel) rfl
set_option maxRecDepth 100000 in
theorem wl_X7_36 : Cond.methodLink RX7 36 yX7_winnerOf ∈ gl_ := wg_ 1082 (by decide +kernel) rfl
set_option maxRecDepth 100000 in
theorem wl_X7_40 : Cond.methodLink RX7 40 yX0_part ∈ gl_ := wg_ 1073 (by decide +kernel) rfl
set_option maxRecDepth 100000 in
theorem wl_X7_45 : Cond.methodLink RX7 45 yX7_worth ∈ gl_ := wg_ 1078 (by decide +kernel) rfl
set_option maxRecDepth 100000 in
theorem wl_X9_47 : Cond.methodLink RX9 47 yX1_copyOf ∈ gl_ := wg_ 1188 (by decide +kernel) rfl
set_option maxRecDepth 100000 in
theorem wl_X9_57 : Cond.methodLink RX9 57 yX9_hasLand ∈ gl_ := wg_ 648 (by decide +kernel) rfl
set_option maxRecDepth 100000 in
theorem wl_X9_64 : Cond.methodLink RX9 64 yX9_hasMonth ∈ gl_ := wg_ 727 (by decide +kernel) rfl
set_option maxRecDepth 100000 in
theorem wl_X9_74 : Cond.methodLink RX9 74 yX1_lengthIn ∈ gl_ := wg_ 729 (by decide +kernel) rfl
set_option maxRecDepth 100000 in
theorem wl_X9_78 : Cond.methodLink RX9 78 yX1_dayOn ∈ gl_ := wg_ 730 (by decide +kernel) rfl
set_option maxRecDepth 100000 in
theorem wl_X9_85 : Cond.methodLink RX9 85 yX9_noteChange ∈ gl_ := wg_ 1103 (by decide +kernel) rfl
set_option maxRecDepth 100000 in
theorem wl_X9_89 : Cond.methodLink RX9 89 yX9_insertFeast ∈ gl_ := wg_ 1144 (by decide +kernel) rfl
set_option maxRecDepth 100000 in
theorem wl_X10_107 : Cond.methodLink RX10 107 yX0_forgetAll ∈ gl_ := wg_ 624 (by decide +kernel) rfl
set_option maxRecDepth 100000 in
theorem wl_X10_113 : Cond.methodLink RX10 113 yX9_hasLand ∈ gl_ := wg_ 636 (by decide +kernel) rfl
set_option maxRecDepth 100000 in
theorem wl_X10_144 : Cond.methodLink RX10 144 yX9_hasMonth ∈ gl_ := wg_ 644 (by decide +kernel) rfl
set_option maxRecDepth 100000 in
theorem wl_X10_148 : Cond.methodLink RX10 148 yX10_isYear ∈ gl_ := wg_ 649 (by decide +kernel) rfl
set_option maxRecDepth 100000 in
theorem wl_X10_151 : Cond.methodLink RX10 151 yX1_lengthIn ∈ gl_ := wg_ 652 (by decide +kernel) rfl
set_option maxRecDepth 100000 in
theorem wl_X10_168 : Cond.methodLink RX10 168 yX10_isLandAndDay ∈ gl_ := wg_ 672 (by decide +kernel) rfl
set_option maxRecDepth 100000 in
theorem wl_X10_171 : Cond.methodLink RX10 171 yX10_told ∈ gl_ := wg_ 679 (by decide +kernel) rfl
set_option maxRecDepth 100000 in
theorem wl_X10_175 : Cond.methodLink RX10 175 yX0_part ∈ gl_ := wg_ 715 (by decide +kernel) rfl
set_option maxRecDepth 100000 in
theorem wl_X10_179 : Cond.methodLink RX10 179 yX9_dayOfDate ∈ gl_ := wg_ 723 (by decide +kernel) rfl
set_option maxRecDepth 100000 in
theorem wl_X10_183 : Cond.methodLink RX10 183 yX0_reason ∈ gl_ := wg_ 740 (by decide +kernel) rfl
set_option maxRecDepth 100000 in
theorem wl_X10_186 : Cond.methodLink RX10 186 yX10_isDayOfWar ∈ gl_ := wg_ 748 (by decide +kernel) rfl
set_option maxRecDepth 100000 in
theorem wl_X10_193 : Cond.methodLink RX10 193 yX10_isSetInSpan ∈ gl_ := wg_ 756 (by decide +kernel) rfl
set_option maxRecDepth 100000 in
theorem wl_X10_197 : Cond.methodLink RX10 197 yX0_allFight ∈ gl_ := wg_ 763 (by decide +kernel) rfl
set_option maxRecDepth 100000 in
theorem wl_X10_200 : Cond.methodLink RX10 200 yX0_fightingDays ∈ gl_ := wg_ 771 (by decide +kernel) rfl
set_option maxRecDepth 100000 in
theorem wl_X10_203 : Cond.methodLink RX10 203 yX0_seekWait ∈ gl_ := wg_ 780 (by decide +kernel) rfl
set_option maxRecDepth 100000 in
theorem wl_X10_213 : Cond.methodLink RX10 213 yX10_commonDivisor ∈ gl_ := wg_ 792 (by decide +kernel) rfl
set_option maxRecDepth 100000 in
theorem wl_X10_216 : Cond.methodLink RX10 216 yX10_isPairAndDay ∈ gl_ := wg_ 799 (by decide +kernel) rfl
set_option maxRecDepth 100000 in
theorem wl_X10_219 : Cond.methodLink RX10 219 yX1_hasWeekday ∈ gl_ := wg_ 807 (by decide +kernel) rfl
set_option maxRecDepth 100000 in
theorem wl_X10_222 : Cond.methodLink RX10 222 yX1_leapCycle ∈ gl_ := wg_ 815 (by decide +kernel) rfl
set_option maxRecDepth 100000 in
theorem wl_X10_226 : Cond.methodLink RX10 226 yX0_monthDay ∈ gl_ := wg_ 823 (by decide +kernel) rfl
set_option maxRecDepth 100000 in
theorem wl_X10_232 : Cond.methodLink RX10 232 yX10_isSaintly ∈ gl_ := wg_ 839 (by decide +kernel) rfl
set_option maxRecDepth 100000 in
theorem wl_X10_236 : Cond.methodLink RX10 236 yX5_seek ∈ gl_ := wg_ 843 (by decide +kernel) rfl
set_option maxRecDepth 100000 in
theorem wl_X10_249 : Cond.methodLink RX10 249 yX10_isSpan ∈ gl_ := wg_ 760 (by decide +kernel) rfl
set_option maxRecDepth 100000 in
theorem wl_X10_25 : Cond.methodLink RX10 25 yX9_init ∈ gl_ := wg_ 157 (by decide +kernel) rfl
set_option maxRecDepth 100000 in
theorem wl_X10_252 : Cond.methodLink RX10 252 yX10_readOrders ∈ gl_ := wg_ 879 (by decide +kernel) rfl
set_option maxRecDepth 100000 in
theorem wl_X10_256 : Cond.methodLink RX10 256 yX2_placeOfOldest ∈ gl_ := wg_ 896 (by decide +kernel) rfl
set_option maxRecDepth 100000 in
theorem wl_X10_260 : Cond.methodLink RX10 260 yX2_earlierThan ∈ gl_ := wg_ 904 (by decide +kernel) rfl
set_option maxRecDepth 100000 in
theorem wl_X10_263 : Cond.methodLink RX10 263 yX2_daysApart ∈ gl_ := wg_ 912 (by decide +kernel) rfl
set_option maxRecDepth 100000 in
theorem wl_X10_266 : Cond.methodLink RX10 266 yX2_datedAtRest ∈ gl_ := wg_ 924 (by decide +kernel) rfl
set_option maxRecDepth 100000 in
theorem wl_X10_270 : Cond.methodLink RX10 270 yX10_readSights ∈ gl_ := wg_ 933 (by decide +kernel) rfl
set_option maxRecDepth 100000 in
theorem wl_X10_277 : Cond.methodLink RX10 277 yX6_fightersOnAll ∈ gl_ := wg_ 959 (by decide +kernel) rfl
set_option maxRecDepth 100000 in
theorem wl_X10_280 : Cond.methodLink RX10 280 yX6_fightersOnSome ∈ gl_ := wg_ 963 (by decide +kernel) rfl
set_option maxRecDepth 100000 in
theorem wl_X10_283 : Cond.methodLink RX10 283 yX6_seekQuestion ∈ gl_ := wg_ 971 (by decide +kernel) rfl
set_option maxRecDepth 100000 in
theorem wl_X10_293 : Cond.methodLink RX10 293 yX9_trucesOn ∈ gl_ := wg_ 991 (by decide +kernel) rfl
set_option maxRecDepth 100000 in
theorem wl_X10_296 : Cond.methodLink RX10 296 yJ9_max_7cf53 ∈ gl_ := wg_ 1003 (by decide +kernel) rfl
set_option maxRecDepth 100000 in
theorem wl_X10_301 : Cond.methodLink RX10 301 yX10_isDay ∈ gl_ := wg_ 676 (by decide +kernel) rfl
set_option maxRecDepth 100000 in
theorem wl_X10_304 : Cond.methodLink RX10 304 yX0_ageBy ∈ gl_ := wg_ 1008 (by decide +kernel) rfl
set_option maxRecDepth 100000 in
theorem wl_X10_307 : Cond.methodLink RX10 307 yX0_clashDay ∈ gl_ := wg_ 1026 (by decide +kernel) rfl
set_option maxRecDepth 100000 in
theorem wl_X10_310 : Cond.methodLink RX10 310 yX10_isPair ∈ gl_ := wg_ 803 (by decide +kernel) rfl
set_option maxRecDepth 100000 in
theorem wl_X10_313 : Cond.methodLink RX10 313 yX0_daysAlone ∈ gl_ := wg_ 1038 (by decide +kernel) rfl
set_option maxRecDepth 100000 in
theorem wl_X10_316 : Cond.methodLink RX10 316 yX0_seekBeginning ∈ gl_ := wg_ 1050 (by decide +kernel) rfl
set_option maxRecDepth 100000 in
theorem wl_X10_326 : Cond.methodLink RX10 326 yJ9_min_7cf53 ∈ gl_ := wg_ 1064 (by decide +kernel) rfl
set_option maxRecDepth 100000 in
theorem wl_X10_329 : Cond.methodLink RX10 329 yX7_play ∈ gl_ := wg_ 1065 (by decide +kernel) rfl
set_option maxRecDepth 100000 in
theorem wl_X10_339 : Cond.methodLink RX10 339 yX9_hasPlainDate ∈ gl_ := wg_ 1094 (by decide +kernel) rfl
set_option maxRecDepth 100000 in
theorem wl_X10_345 : Cond.methodLink RX10 345 yX9_insertFeast ∈ gl_ := wg_ 1098 (by decide +kernel) rfl
set_option maxRecDepth 100000 in
theorem wl_X10_348 : Cond.methodLink RX10 348 yX9_noteFounded ∈ gl_ := wg_ 1099 (by decide +kernel) rfl
set_option maxRecDepth 100000 in
theorem wl_X10_351 : Cond.methodLink RX10 351 yX0_forgetReasons ∈ gl_ := wg_ 1107 (by decide +kernel) rfl
set_option maxRecDepth 100000 in
theorem wl_X10_354 : Cond.methodLink RX10 354 yX9_appendTruce ∈ gl_ := wg_ 1115 (by decide +kernel) rfl
set_option maxRecDepth 100000 in
theorem wl_X10_358 : Cond.methodLink RX10 358 yX9_noteGranted ∈ gl_ := wg_ 1116 (by decide +kernel) rfl
set_option maxRecDepth 100000 in
theorem wl_X10_361 : Cond.methodLink RX10 361 yX9_latestFeastOf ∈ gl_ := wg_ 1124 (by decide +kernel) rfl
set_option maxRecDepth 100000 in
theorem wl_X10_364 : Cond.methodLink RX10 364 yX9_noteEnded ∈ gl_ := wg_ 1128 (by decide +kernel) rfl
set_option maxRecDepth 100000 in
theorem wl_X10_367 : Cond.methodLink RX10 367 yX9_removeFeast ∈ gl_ := wg_ 1132 (by decide +kernel) rfl
set_option maxRecDepth 100000 in
theorem wl_X10_370 : Cond.methodLink RX10 370 yX9_takeBackLatest ∈ gl_ := wg_ 1140 (by decide +kernel) rfl
set_option maxRecDepth 100000 in
theorem wl_X10_373 : Cond.methodLink RX10 373 yX10_isRain ∈ gl_ := wg_ 1149 (by decide +kernel) rfl
set_option maxRecDepth 100000 in
theorem wl_X10_376 : Cond.methodLink RX10 376 yX10_nextDraw ∈ gl_ := wg_ 1153 (by decide +kernel) rfl
set_option maxRecDepth 100000 in
theorem wl_X10_383 : Cond.methodLink RX10 383 yX10_isWet ∈ gl_ := wg_ 1159 (by decide +kernel) rfl
set_option maxRecDepth 100000 in
theorem wl_X10_387 : Cond.methodLink RX10 387 yX10_fightsInRain ∈ gl_ := wg_ 1168 (by decide +kernel) rfl
set_option maxRecDepth 100000 in
theorem wl_X10_391 : Cond.methodLink RX10 391 yX10_slotsWithRow ∈ gl_ := wg_ 1176 (by decide +kernel) rfl
set_option maxRecDepth 100000 in
theorem wl_X10_394 : Cond.methodLink RX10 394 yX9_copyOf ∈ gl_ := wg_ 1184 (by decide +kernel) rfl
set_option maxRecDepth 100000 in
theorem wl_X10_398 : Cond.methodLink RX10 398 yX10_isSlot ∈ gl_ := wg_ 883 (by decide +kernel) rfl
set_option maxRecDepth 100000 in
theorem wl_X10_401 : Cond.methodLink RX10 401 yX4_renew ∈ gl_ := wg_ 1201 (by decide +kernel) rfl
set_option maxRecDepth 100000 in
theorem wl_X10_414 : Cond.methodLink RX10 414 yX4_cut ∈ gl_ := wg_ 1212 (by decide +kernel) rfl
set_option maxRecDepth 100000 in
theorem wl_X10_420 : Cond.methodLink RX10 420 yX4_hasStretch ∈ gl_ := wg_ 1220 (by decide +kernel) rfl
set_option maxRecDepth 100000 in
theorem wl_X10_440 : Cond.methodLink RX10 440 yX0_bringUpToDate ∈ gl_ := wg_ 683 (by decide +kernel) rfl
set_option maxRecDepth 100000 in
theorem wl_X10_443 : Cond.methodLink RX10 443 yX2_read ∈ gl_ := wg_ 886 (by decide +kernel) rfl
set_option maxRecDepth 100000 in
theorem wl_X10_446 : Cond.methodLink RX10 446 yX6_isTold ∈ gl_ := wg_ 937 (by decide +kernel) rfl
set_option maxRecDepth 100000 in
theorem wl_X10_450 : Cond.methodLink RX10 450 yX6_gather ∈ gl_ := wg_ 942 (by decide +kernel) rfl
set_option maxRecDepth 100000 in
theorem wl_X10_93 : Cond.methodLink RX10 93 yX8_append ∈ gl_ := wg_ 474 (by decide +kernel) rfl
set_option maxRecDepth 100000 in
theorem wl_X10_97 : Cond.methodLink RX10 97 yX3_read ∈ gl_ := wg_ 486 (by decide +kernel) rfl
set_option maxRecDepth 100000 in
theorem wl_L_102 : Cond.methodLink RL 102 yX11_alike ∈ gl_ := wg_ 1645 (by decide +kernel) rfl
set_option maxRecDepth 100000 in
theorem wl_L_103 : Cond.methodLink RL 103 yX10_years ∈ gl_ := wg_ 827 (by decide +kernel) rfl
set_option maxRecDepth 100000 in
theorem wl_L_106 : Cond.methodLink RL 106 yX11_years ∈ gl_ := wg_ 1653 (by decide +kernel) rfl
set_option maxRecDepth 100000 in
theorem wl_L_107 : Cond.methodLink RL 107 yX10_comes ∈ gl_ := wg_ 831 (by decide +kernel) rfl
set_option maxRecDepth 100000 in
theorem wl_L_110 : Cond.methodLink RL 110 yX11_comes ∈ gl_ := wg_ 1657 (by decide +kernel) rfl
set_option maxRecDepth 100000 in
theorem wl_L_111 : Cond.methodLink RL 111 yX10_saints ∈ gl_ := wg_ 835 (by decide +kernel) rfl
set_option maxRecDepth 100000 in
theorem wl_L_114 : Cond.methodLink RL 114 yX11_saints ∈ gl_ := wg_ 1661 (by decide +kernel) rfl
set_option maxRecDepth 100000 in
theorem wl_L_115 : Cond.methodLink RL 115 yX10_founded ∈ gl_ := wg_ 862 (by decide +kernel) rfl
set_option maxRecDepth 100000 in
theorem wl_L_119 : Cond.methodLink RL 119 yX11_founded ∈ gl_ := wg_ 1676 (by decide +kernel) rfl
set_option maxRecDepth 100000 in
theorem wl_L_12 : Cond.methodLink RL 12 yX11_init ∈ gl_ := wg_ 1227 (by decide +kernel) rfl
set_option maxRecDepth 100000 in
theorem wl_L_120 : Cond.methodLink RL 120 yX10_bridge ∈ gl_ := wg_ 867 (by decide +kernel) rfl
set_option maxRecDepth 100000 in
theorem wl_L_123 : Cond.methodLink RL 123 yX11_bridge ∈ gl_ := wg_ 1681 (by decide +kernel) rfl
set_option maxRecDepth 100000 in
theorem wl_L_124 : Cond.methodLink RL 124 yX10_bridged ∈ gl_ := wg_ 871 (by decide +kernel) rfl
set_option maxRecDepth 100000 in
theorem wl_L_127 : Cond.methodLink RL 127 yX11_bridged ∈ gl_ := wg_ 1689 (by decide +kernel) rfl
set_option maxRecDepth 100000 in
theorem wl_L_128 : Cond.methodLink RL 128 yX10_oldest ∈ gl_ := wg_ 875 (by decide +kernel) rfl
set_option maxRecDepth 100000 in
theorem wl_L_13 : Cond.methodLink RL 13 yX10_feed ∈ gl_ := wg_ 470 (by decide +kernel) rfl
set_option maxRecDepth 100000 in
theorem wl_L_131 : Cond.methodLink RL 131 yX11_oldest ∈ gl_ := wg_ 1693 (by decide +kernel) rfl
set_option maxRecDepth 100000 in
theorem wl_L_132 : Cond.methodLink RL 132 yX10_older ∈ gl_ := wg_ 900 (by decide +kernel) rfl
set_option maxRecDepth 100000 in
theorem wl_L_135 : Cond.methodLink RL 135 yX11_older ∈ gl_ := wg_ 1716 (by decide +kernel) rfl
set_option maxRecDepth 100000 in
theorem wl_L_136 : Cond.methodLink RL 136 yX10_apart ∈ gl_ := wg_ 908 (by decide +kernel) rfl
set_option maxRecDepth 100000 in
theorem wl_L_139 : Cond.methodLink RL 139 yX11_apart ∈ gl_ := wg_ 1720 (by decide +kernel) rfl
set_option maxRecDepth 100000 in
theorem wl_L_140 : Cond.methodLink RL 140 yX10_idle ∈ gl_ := wg_ 920 (by decide +kernel) rfl
set_option maxRecDepth 100000 in
theorem wl_L_143 : Cond.methodLink RL 143 yX11_idle ∈ gl_ := wg_ 1725 (by decide +kernel) rfl
set_option maxRecDepth 100000 in
theorem wl_L_144 : Cond.methodLink RL 144 yX10_fits ∈ gl_ := wg_ 929 (by decide +kernel) rfl
set_option maxRecDepth 100000 in
theorem wl_L_147 : Cond.methodLink RL 147 yX11_fits ∈ gl_ := wg_ 1729 (by decide +kernel) rfl
set_option maxRecDepth 100000 in
theorem wl_L_148 : Cond.methodLink RL 148 yX10_fit ∈ gl_ := wg_ 951 (by decide +kernel) rfl
set_option maxRecDepth 100000 in
theorem wl_L_151 : Cond.methodLink RL 151 yX11_fit ∈ gl_ := wg_ 1750 (by decide +kernel) rfl
set_option maxRecDepth 100000 in
theorem wl_L_152 : Cond.methodLink RL 152 yX10_sure ∈ gl_ := wg_ 955 (by decide +kernel) rfl
set_option maxRecDepth 100000 in
theorem wl_L_155 : Cond.methodLink RL 155 yX11_sure ∈ gl_ := wg_ 1754 (by decide +kernel) rfl
set_option maxRecDepth 100000 in
theorem wl_L_156 : Cond.methodLink RL 156 yX10_ask ∈ gl_ := wg_ 967 (by decide +kernel) rfl
set_option maxRecDepth 100000 in
theorem wl_L_159 : Cond.methodLink RL 159 yX11_ask ∈ gl_ := wg_ 1758 (by decide +kernel) rfl
set_option maxRecDepth 100000 in
theorem wl_L_160 : Cond.methodLink RL 160 yX10_leaves ∈ gl_ := wg_ 983 (by decide +kernel) rfl
set_option maxRecDepth 100000 in
theorem wl_L_163 : Cond.methodLink RL 163 yX11_leaves ∈ gl_ := wg_ 1770 (by decide +kernel) rfl
set_option maxRecDepth 100000 in
theorem wl_L_164 : Cond.methodLink RL 164 yX10_holds ∈ gl_ := wg_ 987 (by decide +kernel) rfl
set_option maxRecDepth 100000 in
theorem wl_L_167 : Cond.methodLink RL 167 yX11_holds ∈ gl_ := wg_ 1774 (by decide +kernel) rfl
set_option maxRecDepth 100000 in
theorem wl_L_168 : Cond.methodLink RL 168 yX10_overlap ∈ gl_ := wg_ 995 (by decide +kernel) rfl
set_option maxRecDepth 100000 in
theorem wl_L_17 : Cond.methodLink RL 17 yX11_feed ∈ gl_ := wg_ 1360 (by decide +kernel) rfl
set_option maxRecDepth 100000 in
theorem wl_L_171 : Cond.methodLink RL 171 yX11_overlap ∈ gl_ := wg_ 1782 (by decide +kernel) rfl
set_option maxRecDepth 100000 in
theorem wl_L_172 : Cond.methodLink RL 172 yX10_most ∈ gl_ := wg_ 999 (by decide +kernel) rfl
set_option maxRecDepth 100000 in
theorem wl_L_175 : Cond.methodLink RL 175 yX11_most ∈ gl_ := wg_ 1786 (by decide +kernel) rfl
set_option maxRecDepth 100000 in
theorem wl_L_176 : Cond.methodLink RL 176 yX10_age ∈ gl_ := wg_ 1004 (by decide +kernel) rfl
set_option maxRecDepth 100000 in
theorem wl_L_179 : Cond.methodLink RL 179 yX11_age ∈ gl_ := wg_ 1790 (by decide +kernel) rfl
set_option maxRecDepth 100000 in
theorem wl_L_18 : Cond.methodLink RL 18 yX10_end ∈ gl_ := wg_ 478 (by decide +kernel) rfl
set_option maxRecDepth 100000 in
theorem wl_L_180 : Cond.methodLink RL 180 yX10_gains ∈ gl_ := wg_ 1014 (by decide +kernel) rfl
set_option maxRecDepth 100000 in
theorem wl_L_183 : Cond.methodLink RL 183 yX11_gains ∈ gl_ := wg_ 1798 (by decide +kernel) rfl
set_option maxRecDepth 100000 in
theorem wl_L_184 : Cond.methodLink RL 184 yX10_march ∈ gl_ := wg_ 1018 (by decide +kernel) rfl
set_option maxRecDepth 100000 in
theorem wl_L_187 : Cond.methodLink RL 187 yX11_march ∈ gl_ := wg_ 1802 (by decide +kernel) rfl
set_option maxRecDepth 100000 in
theorem wl_L_188 : Cond.methodLink RL 188 yX10_clash ∈ gl_ := wg_ 1022 (by decide +kernel) rfl
set_option maxRecDepth 100000 in
theorem wl_L_191 : Cond.methodLink RL 191 yX11_clash ∈ gl_ := wg_ 1806 (by decide +kernel) rfl
set_option maxRecDepth 100000 in
theorem wl_L_192 : Cond.methodLink RL 192 yX10_place ∈ gl_ := wg_ 1030 (by decide +kernel) rfl
set_option maxRecDepth 100000 in
theorem wl_L_195 : Cond.methodLink RL 195 yX11_place ∈ gl_ := wg_ 1818 (by decide +kernel) rfl
set_option maxRecDepth 100000 in
theorem wl_L_196 : Cond.methodLink RL 196 yX10_alone ∈ gl_ := wg_ 1034 (by decide +kernel) rfl
set_option maxRecDepth 100000 in
theorem wl_L_199 : Cond.methodLink RL 199 yX11_alone ∈ gl_ := wg_ 1822 (by decide +kernel) rfl
set_option maxRecDepth 100000 in
theorem wl_L_200 : Cond.methodLink RL 200 yX10_begin ∈ gl_ := wg_ 1046 (by decide +kernel) rfl
set_option maxRecDepth 100000 in
theorem wl_L_203 : Cond.methodLink RL 203 yX11_begin ∈ gl_ := wg_ 1830 (by decide +kernel) rfl
set_option maxRecDepth 100000 in
theorem wl_L_204 : Cond.methodLink RL 204 yX10_begins ∈ gl_ := wg_ 1056 (by decide +kernel) rfl
set_option maxRecDepth 100000 in
theorem wl_L_207 : Cond.methodLink RL 207 yX11_begins ∈ gl_ := wg_ 1843 (by decide +kernel) rfl
set_option maxRecDepth 100000 in
theorem wl_L_208 : Cond.methodLink RL 208 yX10_game ∈ gl_ := wg_ 1060 (by decide +kernel) rfl
set_option maxRecDepth 100000 in
theorem wl_L_211 : Cond.methodLink RL 211 yX11_game ∈ gl_ := wg_ 1847 (by decide +kernel) rfl
set_option maxRecDepth 100000 in
theorem wl_L_212 : Cond.methodLink RL 212 yX10_takes ∈ gl_ := wg_ 1086 (by decide +kernel) rfl
set_option maxRecDepth 100000 in
theorem wl_L_215 : Cond.methodLink RL 215 yX11_takes_ ∈ gl_ := wg_ 1876 (by decide +kernel) rfl
set_option maxRecDepth 100000 in
theorem wl_L_216 : Cond.methodLink RL 216 yX10_found ∈ gl_ := wg_ 1090 (by decide +kernel) rfl
set_option maxRecDepth 100000 in
theorem wl_L_219 : Cond.methodLink RL 219 yX11_found ∈ gl_ := wg_ 1880 (by decide +kernel) rfl
set_option maxRecDepth 100000 in
theorem wl_L_22 : Cond.methodLink RL 22 yX11_end ∈ gl_ := wg_ 1364 (by decide +kernel) rfl
set_option maxRecDepth 100000 in
theorem wl_L_220 : Cond.methodLink RL 220 yX10_grant ∈ gl_ := wg_ 1111 (by decide +kernel) rfl
set_option maxRecDepth 100000 in
theorem wl_L_223 : Cond.methodLink RL 223 yX11_grant ∈ gl_ := wg_ 1888 (by decide +kernel) rfl
set_option maxRecDepth 100000 in
theorem wl_L_224 : Cond.methodLink RL 224 yX10_ends ∈ gl_ := wg_ 1120 (by decide +kernel) rfl
set_option maxRecDepth 100000 in
theorem wl_L_227 : Cond.methodLink RL 227 yX11_ends ∈ gl_ := wg_ 1892 (by decide +kernel) rfl
set_option maxRecDepth 100000 in
theorem wl_L_228 : Cond.methodLink RL 228 yX10_undo ∈ gl_ := wg_ 1136 (by decide +kernel) rfl
set_option maxRecDepth 100000 in
theorem wl_L_23 : Cond.methodLink RL 23 yX10_war ∈ gl_ := wg_ 482 (by decide +kernel) rfl
set_option maxRecDepth 100000 in
theorem wl_L_231 : Cond.methodLink RL 231 yX11_undo ∈ gl_ := wg_ 1896 (by decide +kernel) rfl
set_option maxRecDepth 100000 in
theorem wl_L_232 : Cond.methodLink RL 232 yX10_drawn ∈ gl_ := wg_ 1145 (by decide +kernel) rfl
set_option maxRecDepth 100000 in
theorem wl_L_235 : Cond.methodLink RL 235 yX11_drawn ∈ gl_ := wg_ 1900 (by decide +kernel) rfl
set_option maxRecDepth 100000 in
theorem wl_L_236 : Cond.methodLink RL 236 yX10_luck ∈ gl_ := wg_ 1164 (by decide +kernel) rfl
set_option maxRecDepth 100000 in
theorem wl_L_239 : Cond.methodLink RL 239 yX11_luck ∈ gl_ := wg_ 1917 (by decide +kernel) rfl
set_option maxRecDepth 100000 in
theorem wl_L_240 : Cond.methodLink RL 240 yX10_count ∈ gl_ := wg_ 1172 (by decide +kernel) rfl
set_option maxRecDepth 100000 in
theorem wl_L_243 : Cond.methodLink RL 243 yX11_count ∈ gl_ := wg_ 1921 (by decide +kernel) rfl
set_option maxRecDepth 100000 in
theorem wl_L_244 : Cond.methodLink RL 244 yX10_image ∈ gl_ := wg_ 1180 (by decide +kernel) rfl
set_option maxRecDepth 100000 in
theorem wl_L_247 : Cond.methodLink RL 247 yX11_image ∈ gl_ := wg_ 1348 (by decide +kernel) rfl
set_option maxRecDepth 100000 in
theorem wl_L_248 : Cond.methodLink RL 248 yX10_back ∈ gl_ := wg_ 1193 (by decide +kernel) rfl
set_option maxRecDepth 100000 in
theorem wl_L_251 : Cond.methodLink RL 251 yX11_back ∈ gl_ := wg_ 1356 (by decide +kernel) rfl
set_option maxRecDepth 100000 in
theorem wl_L_252 : Cond.methodLink RL 252 yX10_row ∈ gl_ := wg_ 1197 (by decide +kernel) rfl
set_option maxRecDepth 100000 in
theorem wl_L_255 : Cond.methodLink RL 255 yX11_row ∈ gl_ := wg_ 1925 (by decide +kernel) rfl
set_option maxRecDepth 100000 in
theorem wl_L_258 : Cond.methodLink RL 258 yX10_write ∈ gl_ := wg_ 1208 (by decide +kernel) rfl
set_option maxRecDepth 100000 in
theorem wl_L_262 : Cond.methodLink RL 262 yX11_write ∈ gl_ := wg_ 1929 (by decide +kernel) rfl
set_option maxRecDepth 100000 in
theorem wl_L_263 : Cond.methodLink RL 263 yX10_paste ∈ gl_ := wg_ 1216 (by decide +kernel) rfl
set_option maxRecDepth 100000 in
theorem wl_L_266 : Cond.methodLink RL 266 yX11_paste ∈ gl_ := wg_ 1936 (by decide +kernel) rfl
set_option maxRecDepth 100000 in
theorem wl_L_27 : Cond.methodLink RL 27 yX11_war ∈ gl_ := wg_ 1372 (by decide +kernel) rfl
set_option maxRecDepth 100000 in
theorem wl_L_28 : Cond.methodLink RL 28 yX10_fault ∈ gl_ := wg_ 628 (by decide +kernel) rfl
set_option maxRecDepth 100000 in
theorem wl_L_31 : Cond.methodLink RL 31 yX11_fault ∈ gl_ := wg_ 1368 (by decide +kernel) rfl
set_option maxRecDepth 100000 in
theorem wl_L_32 : Cond.methodLink RL 32 yX10_land ∈ gl_ := wg_ 632 (by decide +kernel) rfl
set_option maxRecDepth 100000 in
theorem wl_L_36 : Cond.methodLink RL 36 yX11_land ∈ gl_ := wg_ 1463 (by decide +kernel) rfl
set_option maxRecDepth 100000 in
theorem wl_L_37 : Cond.methodLink RL 37 yX10_month ∈ gl_ := wg_ 640 (by decide +kernel) rfl
set_option maxRecDepth 100000 in
theorem wl_L_41 : Cond.methodLink RL 41 yX11_month ∈ gl_ := wg_ 1476 (by decide +kernel) rfl
set_option maxRecDepth 100000 in
theorem wl_L_42 : Cond.methodLink RL 42 yX10_feast ∈ gl_ := wg_ 660 (by decide +kernel) rfl
set_option maxRecDepth 100000 in
theorem wl_L_45 : Cond.methodLink RL 45 yX11_feast ∈ gl_ := wg_ 1492 (by decide +kernel) rfl
set_option maxRecDepth 100000 in
theorem wl_L_46 : Cond.methodLink RL 46 yX10_truce ∈ gl_ := wg_ 664 (by decide +kernel) rfl
set_option maxRecDepth 100000 in
theorem wl_L_49 : Cond.methodLink RL 49 yX11_truce ∈ gl_ := wg_ 1501 (by decide +kernel) rfl
set_option maxRecDepth 100000 in
theorem wl_L_50 : Cond.methodLink RL 50 yX10_date ∈ gl_ := wg_ 668 (by decide +kernel) rfl
set_option maxRecDepth 100000 in
theorem wl_L_53 : Cond.methodLink RL 53 yX11_date ∈ gl_ := wg_ 1509 (by decide +kernel) rfl
set_option maxRecDepth 100000 in
theorem wl_L_54 : Cond.methodLink RL 54 yX10_day ∈ gl_ := wg_ 719 (by decide +kernel) rfl
set_option maxRecDepth 100000 in
theorem wl_L_58 : Cond.methodLink RL 58 yX11_day ∈ gl_ := wg_ 1542 (by decide +kernel) rfl
set_option maxRecDepth 100000 in
theorem wl_L_59 : Cond.methodLink RL 59 yX10_may ∈ gl_ := wg_ 732 (by decide +kernel) rfl
set_option maxRecDepth 100000 in
theorem wl_L_62 : Cond.methodLink RL 62 yX11_may ∈ gl_ := wg_ 1558 (by decide +kernel) rfl
set_option maxRecDepth 100000 in
theorem wl_L_63 : Cond.methodLink RL 63 yX10_why ∈ gl_ := wg_ 736 (by decide +kernel) rfl
set_option maxRecDepth 100000 in
theorem wl_L_66 : Cond.methodLink RL 66 yX11_why ∈ gl_ := wg_ 1566 (by decide +kernel) rfl
set_option maxRecDepth 100000 in
theorem wl_L_67 : Cond.methodLink RL 67 yX10_who ∈ gl_ := wg_ 744 (by decide +kernel) rfl
set_option maxRecDepth 100000 in
theorem wl_L_70 : Cond.methodLink RL 70 yX11_who ∈ gl_ := wg_ 1570 (by decide +kernel) rfl
set_option maxRecDepth 100000 in
theorem wl_L_71 : Cond.methodLink RL 71 yX10_next ∈ gl_ := wg_ 752 (by decide +kernel) rfl
set_option maxRecDepth 100000 in
theorem wl_L_74 : Cond.methodLink RL 74 yX11_next ∈ gl_ := wg_ 1582 (by decide +kernel) rfl
set_option maxRecDepth 100000 in
theorem wl_L_75 : Cond.methodLink RL 75 yX10_many ∈ gl_ := wg_ 767 (by decide +kernel) rfl
set_option maxRecDepth 100000 in
theorem wl_L_78 : Cond.methodLink RL 78 yX11_many ∈ gl_ := wg_ 1598 (by decide +kernel) rfl
set_option maxRecDepth 100000 in
theorem wl_L_79 : Cond.methodLink RL 79 yX10_waits ∈ gl_ := wg_ 776 (by decide +kernel) rfl
set_option maxRecDepth 100000 in
theorem wl_L_82 : Cond.methodLink RL 82 yX11_waits ∈ gl_ := wg_ 1609 (by decide +kernel) rfl
set_option maxRecDepth 100000 in
theorem wl_L_83 : Cond.methodLink RL 83 yX10_waiting ∈ gl_ := wg_ 784 (by decide +kernel) rfl
set_option maxRecDepth 100000 in
theorem wl_L_86 : Cond.methodLink RL 86 yX11_waiting ∈ gl_ := wg_ 1617 (by decide +kernel) rfl
set_option maxRecDepth 100000 in
theorem wl_L_87 : Cond.methodLink RL 87 yX10_share ∈ gl_ := wg_ 788 (by decide +kernel) rfl
set_option maxRecDepth 100000 in
theorem wl_L_9 : Cond.methodLink RL 9 yX10_init ∈ gl_ := wg_ 99 (by decide +kernel) rfl
set_option maxRecDepth 100000 in
theorem wl_L_90 : Cond.methodLink RL 90 yX11_share ∈ gl_ := wg_ 1621 (by decide +kernel) rfl
set_option maxRecDepth 100000 in
theorem wl_L_91 : Cond.methodLink RL 91 yX10_meets ∈ gl_ := wg_ 795 (by decide +kernel) rfl
set_option maxRecDepth 100000 in
theorem wl_L_94 : Cond.methodLink RL 94 yX11_meets ∈ gl_ := wg_ 1628 (by decide +kernel) rfl
set_option maxRecDepth 100000 in
theorem wl_L_95 : Cond.methodLink RL 95 yX10_period ∈ gl_ := wg_ 811 (by decide +kernel) rfl
set_option maxRecDepth 100000 in
theorem wl_L_98 : Cond.methodLink RL 98 yX11_period ∈ gl_ := wg_ 1641 (by decide +kernel) rfl
set_option maxRecDepth 100000 in
theorem wl_L_99 : Cond.methodLink RL 99 yX10_alike ∈ gl_ := wg_ 819 (by decide +kernel) rfl
set_option maxRecDepth 100000 in
theorem wl_X11_100 : Cond.methodLink RX11 100 yX11_of ∈ gl_ := wg_ 1472 (by decide +kernel) rfl
set_option maxRecDepth 100000 in
theorem wl_X11_104 : Cond.methodLink RX11 104 yX11_lengthOf ∈ gl_ := wg_ 1488 (by decide +kernel) rfl
set_option maxRecDepth 100000 in
theorem wl_X11_117 : Cond.methodLink RX11 117 yX11_see ∈ gl_ := wg_ 1380 (by decide +kernel) rfl
set_option maxRecDepth 100000 in
theorem wl_X11_139 : Cond.methodLink RX11 139 yJ9_min_7cf53 ∈ gl_ := wg_ 1389 (by decide +kernel) rfl
set_option maxRecDepth 100000 in
theorem wl_X11_147 : Cond.methodLink RX11 147 yX11_good ∈ gl_ := wg_ 1390 (by decide +kernel) rfl
set_option maxRecDepth 100000 in
theorem wl_X11_150 : Cond.methodLink RX11 150 yJ0_length_8abf5 ∈ gl_ := wg_ 1411 (by decide +kernel) rfl
set_option maxRecDepth 100000 in
theorem wl_X11_155 : Cond.methodLink RX11 155 yJ0_charAt_5068e ∈ gl_ := wg_ 1412 (by decide +kernel) rfl
set_option maxRecDepth 100000 in
theorem wl_X11_159 : Cond.methodLink RX11 159 yX11_is ∈ gl_ := wg_ 1407 (by decide +kernel) rfl
set_option maxRecDepth 100000 in
theorem wl_X11_163 : Cond.methodLink RX11 163 yX11_advance ∈ gl_ := wg_ 1376 (by decide +kernel) rfl
set_option maxRecDepth 100000 in
theorem wl_X11_166 : Cond.methodLink RX11 166 yX11_takes ∈ gl_ := wg_ 1403 (by decide +kernel) rfl
set_option maxRecDepth 100000 in
theorem wl_X11_169 : Cond.methodLink RX11 169 yX11_errs ∈ gl_ := wg_ 1413 (by decide +kernel) rfl
set_option maxRecDepth 100000 in
theorem wl_X11_173 : Cond.methodLink RX11 173 yX11_needs ∈ gl_ := wg_ 1399 (by decide +kernel) rfl
set_option maxRecDepth 100000 in
theorem wl_X11_177 : Cond.methodLink RX11 177 yX11_number ∈ gl_ := wg_ 1422 (by decide +kernel) rfl
set_option maxRecDepth 100000 in
theorem wl_X11_185 : Cond.methodLink RX11 185 yX11_told ∈ gl_ := wg_ 1418 (by decide +kernel) rfl
set_option maxRecDepth 100000 in
theorem wl_X11_195 : Cond.methodLink RX11 195 yX11_readMonths ∈ gl_ := wg_ 1441 (by decide +kernel) rfl
set_option maxRecDepth 100000 in
theorem wl_X11_201 : Cond.methodLink RX11 201 yX11_freshLand ∈ gl_ := wg_ 1453 (by decide +kernel) rfl
set_option maxRecDepth 100000 in
theorem wl_X11_214 : Cond.methodLink RX11 214 yX11_readLand ∈ gl_ := wg_ 1433 (by decide +kernel) rfl
set_option maxRecDepth 100000 in
theorem wl_X11_217 : Cond.methodLink RX11 217 yX11_readFeast ∈ gl_ := wg_ 1449 (by decide +kernel) rfl
set_option maxRecDepth 100000 in
theorem wl_X11_220 : Cond.methodLink RX11 220 yX11_readTruce ∈ gl_ := wg_ 1458 (by decide +kernel) rfl
set_option maxRecDepth 100000 in
theorem wl_X11_227 : Cond.methodLink RX11 227 yX11_readNext ∈ gl_ := wg_ 1426 (by decide +kernel) rfl
set_option maxRecDepth 100000 in
theorem wl_X11_230 : Cond.methodLink RX11 230 yX11_readLine ∈ gl_ := wg_ 1394 (by decide +kernel) rfl
set_option maxRecDepth 100000 in
theorem wl_X11_233 : Cond.methodLink RX11 233 yX11_spot ∈ gl_ := wg_ 1524 (by decide +kernel) rfl
set_option maxRecDepth 100000 in
theorem wl_X11_236 : Cond.methodLink RX11 236 yX11_weekday ∈ gl_ := wg_ 1531 (by decide +kernel) rfl
set_option maxRecDepth 100000 in
theorem wl_X11_239 : Cond.methodLink RX11 239 yX11_bit ∈ gl_ := wg_ 1535 (by decide +kernel) rfl
set_option maxRecDepth 100000 in
theorem wl_X11_242 : Cond.methodLink RX11 242 yX11_ofFeast ∈ gl_ := wg_ 1497 (by decide +kernel) rfl
set_option maxRecDepth 100000 in
theorem wl_X11_245 : Cond.methodLink RX11 245 yX11_ofTruce ∈ gl_ := wg_ 1505 (by decide +kernel) rfl
set_option maxRecDepth 100000 in
theorem wl_X11_248 : Cond.methodLink RX11 248 yX11_layDates ∈ gl_ := wg_ 1520 (by decide +kernel) rfl
set_option maxRecDepth 100000 in
theorem wl_X11_251 : Cond.methodLink RX11 251 yX11_layWhy ∈ gl_ := wg_ 1527 (by decide +kernel) rfl
set_option maxRecDepth 100000 in
theorem wl_X11_254 : Cond.methodLink RX11 254 yX11_mayOn ∈ gl_ := wg_ 1562 (by decide +kernel) rfl
set_option maxRecDepth 100000 in
theorem wl_X11_260 : Cond.methodLink RX11 260 yX11_isMonth ∈ gl_ := wg_ 1480 (by decide +kernel) rfl
set_option maxRecDepth 100000 in
theorem wl_X11_264 : Cond.methodLink RX11 264 yX11_isYear ∈ gl_ := wg_ 1484 (by decide +kernel) rfl
set_option maxRecDepth 100000 in
theorem wl_X11_269 : Cond.methodLink RX11 269 yX11_lay ∈ gl_ := wg_ 1516 (by decide +kernel) rfl
set_option maxRecDepth 100000 in
theorem wl_X11_272 : Cond.methodLink RX11 272 yX11_dateOf ∈ gl_ := wg_ 1538 (by decide +kernel) rfl
set_option maxRecDepth 100000 in
theorem wl_X11_275 : Cond.methodLink RX11 275 yX11_yearLength ∈ gl_ := wg_ 1554 (by decide +kernel) rfl
set_option maxRecDepth 100000 in
theorem wl_X11_278 : Cond.methodLink RX11 278 yX11_isDate ∈ gl_ := wg_ 1546 (by decide +kernel) rfl
set_option maxRecDepth 100000 in
theorem wl_X11_282 : Cond.methodLink RX11 282 yX11_dayBy ∈ gl_ := wg_ 1550 (by decide +kernel) rfl
set_option maxRecDepth 100000 in
theorem wl_X11_286 : Cond.methodLink RX11 286 yX11_whoOn ∈ gl_ := wg_ 1578 (by decide +kernel) rfl
set_option maxRecDepth 100000 in
theorem wl_X11_289 : Cond.methodLink RX11 289 yX11_isSet ∈ gl_ := wg_ 1586 (by decide +kernel) rfl
set_option maxRecDepth 100000 in
theorem wl_X11_293 : Cond.methodLink RX11 293 yX11_mayAll ∈ gl_ := wg_ 1594 (by decide +kernel) rfl
set_option maxRecDepth 100000 in
theorem wl_X11_296 : Cond.methodLink RX11 296 yX11_isSpan ∈ gl_ := wg_ 1602 (by decide +kernel) rfl
set_option maxRecDepth 100000 in
theorem wl_X11_299 : Cond.methodLink RX11 299 yX11_manyOf ∈ gl_ := wg_ 1605 (by decide +kernel) rfl
set_option maxRecDepth 100000 in
theorem wl_X11_308 : Cond.methodLink RX11 308 yX11_findWait ∈ gl_ := wg_ 1613 (by decide +kernel) rfl
set_option maxRecDepth 100000 in
theorem wl_X11_312 : Cond.methodLink RX11 312 yX11_divisor ∈ gl_ := wg_ 1625 (by decide +kernel) rfl
set_option maxRecDepth 100000 in
theorem wl_X11_315 : Cond.methodLink RX11 315 yX11_areTwo ∈ gl_ := wg_ 1632 (by decide +kernel) rfl
set_option maxRecDepth 100000 in
theorem wl_X11_318 : Cond.methodLink RX11 318 yX11_isWeekday ∈ gl_ := wg_ 1636 (by decide +kernel) rfl
set_option maxRecDepth 100000 in
theorem wl_X11_321 : Cond.methodLink RX11 321 yJ9_max_7cf53 ∈ gl_ := wg_ 1640 (by decide +kernel) rfl
set_option maxRecDepth 100000 in
theorem wl_X11_324 : Cond.methodLink RX11 324 yX11_isCounted ∈ gl_ := wg_ 1649 (by decide +kernel) rfl
set_option maxRecDepth 100000 in
theorem wl_X11_340 : Cond.methodLink RX11 340 yX11_areSaints ∈ gl_ := wg_ 1665 (by decide +kernel) rfl
set_option maxRecDepth 100000 in
theorem wl_X11_344 : Cond.methodLink RX11 344 yX11_findSaints ∈ gl_ := wg_ 1671 (by decide +kernel) rfl
set_option maxRecDepth 100000 in
theorem wl_X11_350 : Cond.methodLink RX11 350 yX11_findBridge ∈ gl_ := wg_ 1685 (by decide +kernel) rfl
set_option maxRecDepth 100000 in
theorem wl_X11_354 : Cond.methodLink RX11 354 yX11_numberAt ∈ gl_ := wg_ 1704 (by decide +kernel) rfl
set_option maxRecDepth 100000 in
theorem wl_X11_358 : Cond.methodLink RX11 358 yX11_intAt ∈ gl_ := wg_ 1708 (by decide +kernel) rfl
set_option maxRecDepth 100000 in
theorem wl_X11_361 : Cond.methodLink RX11 361 yX11_isSlot ∈ gl_ := wg_ 1701 (by decide +kernel) rfl
set_option maxRecDepth 100000 in
theorem wl_X11_364 : Cond.methodLink RX11 364 yX11_dayAt ∈ gl_ := wg_ 1712 (by decide +kernel) rfl
set_option maxRecDepth 100000 in
theorem wl_X11_367 : Cond.methodLink RX11 367 yX11_asksOrders ∈ gl_ := wg_ 1697 (by decide +kernel) rfl
set_option maxRecDepth 100000 in
theorem wl_X11_373 : Cond.methodLink RX11 373 yX11_seen ∈ gl_ := wg_ 1746 (by decide +kernel) rfl
set_option maxRecDepth 100000 in
theorem wl_X11_376 : Cond.methodLink RX11 376 yX11_isSeen ∈ gl_ := wg_ 1742 (by decide +kernel) rfl
set_option maxRecDepth 100000 in
theorem wl_X11_379 : Cond.methodLink RX11 379 yX11_asksSeen ∈ gl_ := wg_ 1733 (by decide +kernel) rfl
set_option maxRecDepth 100000 in
theorem wl_X11_383 : Cond.methodLink RX11 383 yX11_fitsOf ∈ gl_ := wg_ 1738 (by decide +kernel) rfl
set_option maxRecDepth 100000 in
theorem wl_X11_389 : Cond.methodLink RX11 389 yX11_worstOf ∈ gl_ := wg_ 1766 (by decide +kernel) rfl
set_option maxRecDepth 100000 in
theorem wl_X11_393 : Cond.methodLink RX11 393 yX11_askOf ∈ gl_ := wg_ 1762 (by decide +kernel) rfl
set_option maxRecDepth 100000 in
theorem wl_X11_396 : Cond.methodLink RX11 396 yX11_holdOn ∈ gl_ := wg_ 1778 (by decide +kernel) rfl
set_option maxRecDepth 100000 in
theorem wl_X11_399 : Cond.methodLink RX11 399 yX11_ageOf ∈ gl_ := wg_ 1794 (by decide +kernel) rfl
set_option maxRecDepth 100000 in
theorem wl_X11_408 : Cond.methodLink RX11 408 yX11_isClash ∈ gl_ := wg_ 1810 (by decide +kernel) rfl
set_option maxRecDepth 100000 in
theorem wl_X11_412 : Cond.methodLink RX11 412 yX11_findClash ∈ gl_ := wg_ 1814 (by decide +kernel) rfl
set_option maxRecDepth 100000 in
theorem wl_X11_415 : Cond.methodLink RX11 415 yX11_aloneOf ∈ gl_ := wg_ 1826 (by decide +kernel) rfl
set_option maxRecDepth 100000 in
theorem wl_X11_423 : Cond.methodLink RX11 423 yX11_isBegin ∈ gl_ := wg_ 1834 (by decide +kernel) rfl
set_option maxRecDepth 100000 in
theorem wl_X11_426 : Cond.methodLink RX11 426 yX11_beginOf ∈ gl_ := wg_ 1839 (by decide +kernel) rfl
set_option maxRecDepth 100000 in
theorem wl_X11_429 : Cond.methodLink RX11 429 yX11_behind ∈ gl_ := wg_ 1870 (by decide +kernel) rfl
set_option maxRecDepth 100000 in
theorem wl_X11_433 : Cond.methodLink RX11 433 yX11_rank ∈ gl_ := wg_ 1873 (by decide +kernel) rfl
set_option maxRecDepth 100000 in
theorem wl_X11_436 : Cond.methodLink RX11 436 yX11_bestTake ∈ gl_ := wg_ 1867 (by decide +kernel) rfl
set_option maxRecDepth 100000 in
theorem wl_X11_440 : Cond.methodLink RX11 440 yX11_copy ∈ gl_ := wg_ 1860 (by decide +kernel) rfl
set_option maxRecDepth 100000 in
theorem wl_X11_444 : Cond.methodLink RX11 444 yX11_turn ∈ gl_ := wg_ 1864 (by decide +kernel) rfl
set_option maxRecDepth 100000 in
theorem wl_X11_450 : Cond.methodLink RX11 450 yX11_isGame ∈ gl_ := wg_ 1851 (by decide +kernel) rfl
set_option maxRecDepth 100000 in
theorem wl_X11_453 : Cond.methodLink RX11 453 yX11_play ∈ gl_ := wg_ 1856 (by decide +kernel) rfl
set_option maxRecDepth 100000 in
theorem wl_X11_456 : Cond.methodLink RX11 456 yX11_keepChange ∈ gl_ := wg_ 1884 (by decide +kernel) rfl
set_option maxRecDepth 100000 in
theorem wl_X11_481 : Cond.methodLink RX11 481 yX11_isSeed ∈ gl_ := wg_ 1904 (by decide +kernel) rfl
set_option maxRecDepth 100000 in
theorem wl_X11_484 : Cond.methodLink RX11 484 yX11_goRain ∈ gl_ := wg_ 1909 (by decide +kernel) rfl
set_option maxRecDepth 100000 in
theorem wl_X11_488 : Cond.methodLink RX11 488 yX11_cut ∈ gl_ := wg_ 1933 (by decide +kernel) rfl
set_option maxRecDepth 100000 in
theorem wl_X11_79 : Cond.methodLink RX11 79 yX11_in ∈ gl_ := wg_ 1353 (by decide +kernel) rfl
set_option maxRecDepth 100000 in
theorem wl_X11_83 : Cond.methodLink RX11 83 yX11_isLand ∈ gl_ := wg_ 1467 (by decide +kernel) rfl
set_option maxRecDepth 100000 in
theorem wl_X11_89 : Cond.methodLink RX11 89 yX11_isDay ∈ gl_ := wg_ 1513 (by decide +kernel) rfl
set_option maxRecDepth 100000 in
theorem wl_X11_92 : Cond.methodLink RX11 92 yX11_isWar ∈ gl_ := wg_ 1574 (by decide +kernel) rfl
set_option maxRecDepth 100000 in
theorem wl_X11_96 : Cond.methodLink RX11 96 yX11_allLands ∈ gl_ := wg_ 1590 (by decide +kernel) rfl
set_option maxRecDepth 100000 in
theorem wl_J0_1059 : Cond.methodLink RJ0 1059 yJ3_checkIndex_8e157 ∈ gl_ := wg_ 534 (by decide +kernel) rfl
set_option maxRecDepth 100000 in
theorem wl_J0_335 : Cond.methodLink RJ0 335 yJ0_coder_7d493 ∈ gl_ := wg_ 512 (by decide +kernel) rfl
set_option maxRecDepth 100000 in
theorem wl_J0_492 : Cond.methodLink RJ0 492 yJ0_isLatin1_aae02 ∈ gl_ := wg_ 522 (by decide +kernel) rfl
set_option maxRecDepth 100000 in
theorem wl_J0_495 : Cond.methodLink RJ0 495 yJ1_charAt_3b067 ∈ gl_ := wg_ 526 (by decide +kernel) rfl
set_option maxRecDepth 100000 in
theorem wl_J0_498 : Cond.methodLink RJ0 498 yJ2_charAt_3b067 ∈ gl_ := wg_ 537 (by decide +kernel) rfl
set_option maxRecDepth 100000 in
theorem wl_J1_9 : Cond.methodLink RJ1 9 yJ0_checkIndex_df160 ∈ gl_ := wg_ 529 (by decide +kernel) rfl
set_option maxRecDepth 100000 in
theorem wl_J2_414 : Cond.methodLink RJ2 414 yJ0_checkIndex_df160 ∈ gl_ := wg_ 546 (by decide +kernel) rfl
set_option maxRecDepth 100000 in
theorem wl_J2_48 : Cond.methodLink RJ2 48 yJ2_length_9d52b ∈ gl_ := wg_ 543 (by decide +kernel) rfl
set_option maxRecDepth 100000 in
theorem wl_J2_67 : Cond.methodLink RJ2 67 yJ2_checkIndex_2214a ∈ gl_ := wg_ 540 (by decide +kernel) rfl
set_option maxRecDepth 100000 in
theorem wl_J2_71 : Cond.methodLink RJ2 71 yJ2_getChar_3b067 ∈ gl_ := wg_ 547 (by decide +kernel) rfl
set_option maxRecDepth 100000 in
theorem wc_J0_charAt_5068e : Cond.code yJ0_charAt_5068e cJ0_charAt_5068e 2 (some .char) ∈ gl_ := wg_ 521 (by decide +kernel) rfl
set_option maxRecDepth 100000 in
theorem wc_J0_checkIndex_df160 : Cond.code yJ0_checkIndex_df160 cJ0_checkIndex_df160 2 none ∈ gl_ := wg_ 531 (by decide +kernel) rfl
set_option maxRecDepth 100000 in
theorem wc_J0_coder_7d493 : Cond.code yJ0_coder_7d493 cJ0_coder_7d493 1 (some .byte) ∈ gl_ := wg_ 515 (by decide +kernel) rfl
set_option maxRecDepth 100000 in
theorem wc_J0_isLatin1_aae02 : Cond.code yJ0_isLatin1_aae02 cJ0_isLatin1_aae02 1 (some .boolean) ∈ gl_ := wg_ 525 (by decide +kernel) rfl
set_option maxRecDepth 100000 in
theorem wc_J0_length_8abf5 : Cond.code yJ0_length_8abf5 cJ0_length_8abf5 1 (some .int) ∈ gl_ := wg_ 511 (by decide +kernel) rfl
set_option maxRecDepth 100000 in
theorem wc_J1_charAt_3b067 : Cond.code yJ1_charAt_3b067 cJ1_charAt_3b067 2 (some .char) ∈ gl_ := wg_ 528 (by decide +kernel) rfl
set_option maxRecDepth 100000 in
theorem wc_J2_charAt_3b067 : Cond.code yJ2_charAt_3b067 cJ2_charAt_3b067 2 (some .char) ∈ gl_ := wg_ 539 (by decide +kernel) rfl
set_option maxRecDepth 100000 in
theorem wc_J2_checkIndex_2214a : Cond.code yJ2_checkIndex_2214a cJ2_checkIndex_2214a 2 none ∈ gl_ := wg_ 542 (by decide +kernel) rfl
set_option maxRecDepth 100000 in
theorem wc_J2_getChar_3b067 : Cond.code yJ2_getChar_3b067 cJ2_getChar_3b067 2 (some .char) ∈ gl_ := wg_ 549 (by decide +kernel) rfl
set_option maxRecDepth 100000 in
theorem wc_J2_length_9d52b : Cond.code yJ2_length_9d52b cJ2_length_9d52b 1 (some .int) ∈ gl_ := wg_ 545 (by decide +kernel) rfl
set_option maxRecDepth 100000 in
theorem wc_J3_checkIndex_8e157 : Cond.code yJ3_checkIndex_8e157 cJ3_checkIndex_8e157 3 (some .int) ∈ gl_ := wg_ 536 (by decide +kernel) rfl
set_option maxRecDepth 100000 in
theorem wc_J7_fill_031fb : Cond.code yJ7_fill_031fb cJ7_fill_031fb 4 none ∈ gl_ := wg_ 689 (by decide +kernel) rfl
set_option maxRecDepth 100000 in
theorem wc_J7_fill_53178 : Cond.code yJ7_fill_53178 cJ7_fill_53178 4 none ∈ gl_ := wg_ 981 (by decide +kernel) rfl
set_option maxRecDepth 100000 in
theorem wc_J7_fill_d0a16 : Cond.code yJ7_fill_d0a16 cJ7_fill_d0a16 5 none ∈ gl_ := wg_ 1207 (by decide +kernel) rfl
set_option maxRecDepth 100000 in
theorem wc_J9_max_7cf53 : Cond.code yJ9_max_7cf53 cJ9_max_7cf53 2 (some .int) ∈ gl_ := wg_ 919 (by decide +kernel) rfl
set_option maxRecDepth 100000 in
theorem wc_J9_min_7cf53 : Cond.code yJ9_min_7cf53 cJ9_min_7cf53 2 (some .int) ∈ gl_ := wg_ 860 (by decide +kernel) rfl
set_option maxRecDepth 100000 in
theorem wc_X0_ageBy : Cond.code yX0_ageBy cX0_ageBy 6 (some .int) ∈ gl_ := wg_ 1011 (by decide +kernel) rfl
set_option maxRecDepth 100000 in
theorem wc_X0_allFight : Cond.code yX0_allFight cX0_allFight 3 (some .boolean) ∈ gl_ := wg_ 766 (by decide +kernel) rfl
set_option maxRecDepth 100000 in
theorem wc_X0_aloneOn : Cond.code yX0_aloneOn cX0_aloneOn 4 (some .int) ∈ gl_ := wg_ 1045 (by decide +kernel) rfl
set_option maxRecDepth 100000 in
theorem wc_X0_bringUpToDate : Cond.code yX0_bringUpToDate cX0_bringUpToDate 3 none ∈ gl_ := wg_ 686 (by decide +kernel) rfl
set_option maxRecDepth 100000 in
theorem wc_X0_clashDay : Cond.code yX0_clashDay cX0_clashDay 7 (some .int) ∈ gl_ := wg_ 1029 (by decide +kernel) rfl
set_option maxRecDepth 100000 in
theorem wc_X0_daysAlone : Cond.code yX0_daysAlone cX0_daysAlone 7 (some .int) ∈ gl_ := wg_ 1041 (by decide +kernel) rfl
set_option maxRecDepth 100000 in
theorem wc_X0_fightingDays : Cond.code yX0_fightingDays cX0_fightingDays 6 (some .int) ∈ gl_ := wg_ 774 (by decide +kernel) rfl
set_option maxRecDepth 100000 in
theorem wc_X0_fillDates : Cond.code yX0_fillDates cX0_fillDates 9 none ∈ gl_ := wg_ 693 (by decide +kernel) rfl
set_option maxRecDepth 100000 in
theorem wc_X0_fillFighters : Cond.code yX0_fillFighters cX0_fillFighters 5 none ∈ gl_ := wg_ 714 (by decide +kernel) rfl
set_option maxRecDepth 100000 in
theorem wc_X0_fillReasons : Cond.code yX0_fillReasons cX0_fillReasons 8 none ∈ gl_ := wg_ 698 (by decide +kernel) rfl
set_option maxRecDepth 100000 in
theorem wc_X0_forgetAll : Cond.code yX0_forgetAll cX0_forgetAll 1 none ∈ gl_ := wg_ 627 (by decide +kernel) rfl
set_option maxRecDepth 100000 in
theorem wc_X0_forgetReasons : Cond.code yX0_forgetReasons cX0_forgetReasons 2 none ∈ gl_ := wg_ 1110 (by decide +kernel) rfl
set_option maxRecDepth 100000 in
theorem wc_X0_init : Cond.code yX0_init cX0_init 1 none ∈ gl_ := wg_ 278 (by decide +kernel) rfl
set_option maxRecDepth 100000 in
theorem wc_X0_markFeast : Cond.code yX0_markFeast cX0_markFeast 8 none ∈ gl_ := wg_ 702 (by decide +kernel) rfl
set_option maxRecDepth 100000 in
theorem wc_X0_markReason : Cond.code yX0_markReason cX0_markReason 6 none ∈ gl_ := wg_ 710 (by decide +kernel) rfl
set_option maxRecDepth 100000 in
theorem wc_X0_monthDay : Cond.code yX0_monthDay cX0_monthDay 4 (some .int) ∈ gl_ := wg_ 826 (by decide +kernel) rfl
set_option maxRecDepth 100000 in
theorem wc_X0_part : Cond.code yX0_part cX0_part 5 (some .int) ∈ gl_ := wg_ 718 (by decide +kernel) rfl
set_option maxRecDepth 100000 in
theorem wc_X0_reason : Cond.code yX0_reason cX0_reason 3 (some .int) ∈ gl_ := wg_ 743 (by decide +kernel) rfl
set_option maxRecDepth 100000 in
theorem wc_X0_seekBeginning : Cond.code yX0_seekBeginning cX0_seekBeginning 8 none ∈ gl_ := wg_ 1053 (by decide +kernel) rfl
set_option maxRecDepth 100000 in
theorem wc_X0_seekWait : Cond.code yX0_seekWait cX0_seekWait 8 none ∈ gl_ := wg_ 783 (by decide +kernel) rfl
set_option maxRecDepth 100000 in
theorem wc_X10_age : Cond.code yX10_age cX10_age 4 (some .int) ∈ gl_ := wg_ 1007 (by decide +kernel) rfl
set_option maxRecDepth 100000 in
theorem wc_X10_alike : Cond.code yX10_alike cX10_alike 7 (some .int) ∈ gl_ := wg_ 822 (by decide +kernel) rfl
set_option maxRecDepth 100000 in
theorem wc_X10_alone : Cond.code yX10_alone cX10_alone 5 (some .int) ∈ gl_ := wg_ 1037 (by decide +kernel) rfl
set_option maxRecDepth 100000 in
theorem wc_X10_apart : Cond.code yX10_apart cX10_apart 3 (some .int) ∈ gl_ := wg_ 911 (by decide +kernel) rfl
set_option maxRecDepth 100000 in
theorem wc_X10_ask : Cond.code yX10_ask cX10_ask 5 (some .int) ∈ gl_ := wg_ 970 (by decide +kernel) rfl
set_option maxRecDepth 100000 in
theorem wc_X10_back : Cond.code yX10_back cX10_back 2 (some .int) ∈ gl_ := wg_ 1196 (by decide +kernel) rfl
set_option maxRecDepth 100000 in
theorem wc_X10_begin : Cond.code yX10_begin cX10_begin 6 (some .int) ∈ gl_ := wg_ 1049 (by decide +kernel) rfl
set_option maxRecDepth 100000 in
theorem wc_X10_begins : Cond.code yX10_begins cX10_begins 6 (some .int) ∈ gl_ := wg_ 1059 (by decide +kernel) rfl
set_option maxRecDepth 100000 in
theorem wc_X10_bridge : Cond.code yX10_bridge cX10_bridge 5 (some .int) ∈ gl_ := wg_ 870 (by decide +kernel) rfl
set_option maxRecDepth 100000 in
theorem wc_X10_bridged : Cond.code yX10_bridged cX10_bridged 5 (some .int) ∈ gl_ := wg_ 874 (by decide +kernel) rfl
set_option maxRecDepth 100000 in
theorem wc_X10_clash : Cond.code yX10_clash cX10_clash 5 (some .int) ∈ gl_ := wg_ 1025 (by decide +kernel) rfl
set_option maxRecDepth 100000 in
theorem wc_X10_comes : Cond.code yX10_comes cX10_comes 7 (some .int) ∈ gl_ := wg_ 834 (by decide +kernel) rfl
set_option maxRecDepth 100000 in
theorem wc_X10_commonDivisor : Cond.code yX10_commonDivisor cX10_commonDivisor 6 (some .int) ∈ gl_ := wg_ 794 (by decide +kernel) rfl
set_option maxRecDepth 100000 in
theorem wc_X10_count : Cond.code yX10_count cX10_count 2 (some .int) ∈ gl_ := wg_ 1175 (by decide +kernel) rfl
set_option maxRecDepth 100000 in
theorem wc_X10_date : Cond.code yX10_date cX10_date 4 (some .int) ∈ gl_ := wg_ 671 (by decide +kernel) rfl
set_option maxRecDepth 100000 in
theorem wc_X10_day : Cond.code yX10_day cX10_day 5 (some .int) ∈ gl_ := wg_ 722 (by decide +kernel) rfl
set_option maxRecDepth 100000 in
theorem wc_X10_drawn : Cond.code yX10_drawn cX10_drawn 13 (some .int) ∈ gl_ := wg_ 1148 (by decide +kernel) rfl
set_option maxRecDepth 100000 in
theorem wc_X10_end : Cond.code yX10_end cX10_end 2 (some .int) ∈ gl_ := wg_ 481 (by decide +kernel) rfl
set_option maxRecDepth 100000 in
theorem wc_X10_ends : Cond.code yX10_ends cX10_ends 3 (some .int) ∈ gl_ := wg_ 1123 (by decide +kernel) rfl
set_option maxRecDepth 100000 in
theorem wc_X10_fault : Cond.code yX10_fault cX10_fault 2 (some .int) ∈ gl_ := wg_ 631 (by decide +kernel) rfl
set_option maxRecDepth 100000 in
theorem wc_X10_feast : Cond.code yX10_feast cX10_feast 3 (some .int) ∈ gl_ := wg_ 663 (by decide +kernel) rfl
set_option maxRecDepth 100000 in
theorem wc_X10_feed : Cond.code yX10_feed cX10_feed 6 (some .int) ∈ gl_ := wg_ 473 (by decide +kernel) rfl
set_option maxRecDepth 100000 in
theorem wc_X10_fightsInRain : Cond.code yX10_fightsInRain cX10_fightsInRain 11 (some .boolean) ∈ gl_ := wg_ 1171 (by decide +kernel) rfl
set_option maxRecDepth 100000 in
theorem wc_X10_fit : Cond.code yX10_fit cX10_fit 6 (some .int) ∈ gl_ := wg_ 954 (by decide +kernel) rfl
set_option maxRecDepth 100000 in
theorem wc_X10_fits : Cond.code yX10_fits cX10_fits 5 (some .int) ∈ gl_ := wg_ 932 (by decide +kernel) rfl
set_option maxRecDepth 100000 in
theorem wc_X10_found : Cond.code yX10_found cX10_found 5 (some .int) ∈ gl_ := wg_ 1093 (by decide +kernel) rfl
set_option maxRecDepth 100000 in
theorem wc_X10_founded : Cond.code yX10_founded cX10_founded 6 (some .long) ∈ gl_ := wg_ 865 (by decide +kernel) rfl
set_option maxRecDepth 100000 in
theorem wc_X10_gains : Cond.code yX10_gains cX10_gains 7 (some .int) ∈ gl_ := wg_ 1017 (by decide +kernel) rfl
set_option maxRecDepth 100000 in
theorem wc_X10_game : Cond.code yX10_game cX10_game 5 (some .int) ∈ gl_ := wg_ 1063 (by decide +kernel) rfl
set_option maxRecDepth 100000 in
theorem wc_X10_grant : Cond.code yX10_grant cX10_grant 4 (some .int) ∈ gl_ := wg_ 1114 (by decide +kernel) rfl
set_option maxRecDepth 100000 in
theorem wc_X10_holds : Cond.code yX10_holds cX10_holds 2 (some .int) ∈ gl_ := wg_ 990 (by decide +kernel) rfl
set_option maxRecDepth 100000 in
theorem wc_X10_idle : Cond.code yX10_idle cX10_idle 3 (some .int) ∈ gl_ := wg_ 923 (by decide +kernel) rfl
set_option maxRecDepth 100000 in
theorem wc_X10_image : Cond.code yX10_image cX10_image 2 (some .int) ∈ gl_ := wg_ 1183 (by decide +kernel) rfl
set_option maxRecDepth 100000 in
theorem wc_X10_init : Cond.code yX10_init cX10_init 2 none ∈ gl_ := wg_ 101 (by decide +kernel) rfl
set_option maxRecDepth 100000 in
theorem wc_X10_isDay : Cond.code yX10_isDay cX10_isDay 1 (some .boolean) ∈ gl_ := wg_ 678 (by decide +kernel) rfl
set_option maxRecDepth 100000 in
theorem wc_X10_isDayOfWar : Cond.code yX10_isDayOfWar cX10_isDayOfWar 2 (some .boolean) ∈ gl_ := wg_ 751 (by decide +kernel) rfl
set_option maxRecDepth 100000 in
theorem wc_X10_isLandAndDay : Cond.code yX10_isLandAndDay cX10_isLandAndDay 3 (some .boolean) ∈ gl_ := wg_ 675 (by decide +kernel) rfl
set_option maxRecDepth 100000 in
theorem wc_X10_isPair : Cond.code yX10_isPair cX10_isPair 3 (some .boolean) ∈ gl_ := wg_ 806 (by decide +kernel) rfl
set_option maxRecDepth 100000 in
theorem wc_X10_isPairAndDay : Cond.code yX10_isPairAndDay cX10_isPairAndDay 4 (some .boolean) ∈ gl_ := wg_ 802 (by decide +kernel) rfl
set_option maxRecDepth 100000 in
theorem wc_X10_isRain : Cond.code yX10_isRain cX10_isRain 3 (some .boolean) ∈ gl_ := wg_ 1151 (by decide +kernel) rfl
set_option maxRecDepth 100000 in
theorem wc_X10_isSaintly : Cond.code yX10_isSaintly cX10_isSaintly 6 (some .boolean) ∈ gl_ := wg_ 842 (by decide +kernel) rfl
set_option maxRecDepth 100000 in
theorem wc_X10_isSetInSpan : Cond.code yX10_isSetInSpan cX10_isSetInSpan 4 (some .boolean) ∈ gl_ := wg_ 759 (by decide +kernel) rfl
set_option maxRecDepth 100000 in
theorem wc_X10_isSlot : Cond.code yX10_isSlot cX10_isSlot 1 (some .boolean) ∈ gl_ := wg_ 885 (by decide +kernel) rfl
set_option maxRecDepth 100000 in
theorem wc_X10_isSpan : Cond.code yX10_isSpan cX10_isSpan 2 (some .boolean) ∈ gl_ := wg_ 762 (by decide +kernel) rfl
set_option maxRecDepth 100000 in
theorem wc_X10_isWet : Cond.code yX10_isWet cX10_isWet 3 (some .boolean) ∈ gl_ := wg_ 1161 (by decide +kernel) rfl
set_option maxRecDepth 100000 in
theorem wc_X10_isYear : Cond.code yX10_isYear cX10_isYear 1 (some .boolean) ∈ gl_ := wg_ 651 (by decide +kernel) rfl
set_option maxRecDepth 100000 in
theorem wc_X10_land : Cond.code yX10_land cX10_land 4 (some .int) ∈ gl_ := wg_ 635 (by decide +kernel) rfl
set_option maxRecDepth 100000 in
theorem wc_X10_leaves : Cond.code yX10_leaves cX10_leaves 5 (some .int) ∈ gl_ := wg_ 986 (by decide +kernel) rfl
set_option maxRecDepth 100000 in
theorem wc_X10_luck : Cond.code yX10_luck cX10_luck 9 (some .int) ∈ gl_ := wg_ 1167 (by decide +kernel) rfl
set_option maxRecDepth 100000 in
theorem wc_X10_many : Cond.code yX10_many cX10_many 4 (some .int) ∈ gl_ := wg_ 770 (by decide +kernel) rfl
set_option maxRecDepth 100000 in
theorem wc_X10_march : Cond.code yX10_march cX10_march 7 (some .int) ∈ gl_ := wg_ 1021 (by decide +kernel) rfl
set_option maxRecDepth 100000 in
theorem wc_X10_may : Cond.code yX10_may cX10_may 3 (some .int) ∈ gl_ := wg_ 735 (by decide +kernel) rfl
set_option maxRecDepth 100000 in
theorem wc_X10_meets : Cond.code yX10_meets cX10_meets 8 (some .int) ∈ gl_ := wg_ 798 (by decide +kernel) rfl
set_option maxRecDepth 100000 in
theorem wc_X10_month : Cond.code yX10_month cX10_month 4 (some .int) ∈ gl_ := wg_ 643 (by decide +kernel) rfl
set_option maxRecDepth 100000 in
theorem wc_X10_most : Cond.code yX10_most cX10_most 4 (some .int) ∈ gl_ := wg_ 1002 (by decide +kernel) rfl
set_option maxRecDepth 100000 in
theorem wc_X10_next : Cond.code yX10_next cX10_next 5 (some .int) ∈ gl_ := wg_ 755 (by decide +kernel) rfl
set_option maxRecDepth 100000 in
theorem wc_X10_nextDraw : Cond.code yX10_nextDraw cX10_nextDraw 2 (some .long) ∈ gl_ := wg_ 1155 (by decide +kernel) rfl
set_option maxRecDepth 100000 in
theorem wc_X10_older : Cond.code yX10_older cX10_older 4 (some .int) ∈ gl_ := wg_ 903 (by decide +kernel) rfl
set_option maxRecDepth 100000 in
theorem wc_X10_oldest : Cond.code yX10_oldest cX10_oldest 3 (some .int) ∈ gl_ := wg_ 878 (by decide +kernel) rfl
set_option maxRecDepth 100000 in
theorem wc_X10_overlap : Cond.code yX10_overlap cX10_overlap 4 (some .int) ∈ gl_ := wg_ 998 (by decide +kernel) rfl
set_option maxRecDepth 100000 in
theorem wc_X10_paste : Cond.code yX10_paste cX10_paste 8 (some .int) ∈ gl_ := wg_ 1219 (by decide +kernel) rfl
set_option maxRecDepth 100000 in
theorem wc_X10_period : Cond.code yX10_period cX10_period 4 (some .int) ∈ gl_ := wg_ 814 (by decide +kernel) rfl
set_option maxRecDepth 100000 in
theorem wc_X10_place : Cond.code yX10_place cX10_place 9 (some .int) ∈ gl_ := wg_ 1033 (by decide +kernel) rfl
set_option maxRecDepth 100000 in
theorem wc_X10_readOrders : Cond.code yX10_readOrders cX10_readOrders 2 (some .int) ∈ gl_ := wg_ 882 (by decide +kernel) rfl
set_option maxRecDepth 100000 in
theorem wc_X10_readSights : Cond.code yX10_readSights cX10_readSights 5 (some .int) ∈ gl_ := wg_ 936 (by decide +kernel) rfl
set_option maxRecDepth 100000 in
theorem wc_X10_row : Cond.code yX10_row cX10_row 4 (some .int) ∈ gl_ := wg_ 1200 (by decide +kernel) rfl
set_option maxRecDepth 100000 in
theorem wc_X10_saints : Cond.code yX10_saints cX10_saints 6 (some .int) ∈ gl_ := wg_ 838 (by decide +kernel) rfl
set_option maxRecDepth 100000 in
theorem wc_X10_share : Cond.code yX10_share cX10_share 8 (some .int) ∈ gl_ := wg_ 791 (by decide +kernel) rfl
set_option maxRecDepth 100000 in
theorem wc_X10_slotsWithRow : Cond.code yX10_slotsWithRow cX10_slotsWithRow 3 (some .int) ∈ gl_ := wg_ 1179 (by decide +kernel) rfl
set_option maxRecDepth 100000 in
theorem wc_X10_sure : Cond.code yX10_sure cX10_sure 6 (some .int) ∈ gl_ := wg_ 958 (by decide +kernel) rfl
set_option maxRecDepth 100000 in
theorem wc_X10_takes : Cond.code yX10_takes cX10_takes 5 (some .int) ∈ gl_ := wg_ 1089 (by decide +kernel) rfl
set_option maxRecDepth 100000 in
theorem wc_X10_told : Cond.code yX10_told cX10_told 1 (some (.object "TwoCalendars$Almanac")) ∈ gl_ := wg_ 682 (by decide +kernel) rfl
set_option maxRecDepth 100000 in
theorem wc_X10_truce : Cond.code yX10_truce cX10_truce 3 (some .int) ∈ gl_ := wg_ 667 (by decide +kernel) rfl
set_option maxRecDepth 100000 in
theorem wc_X10_undo : Cond.code yX10_undo cX10_undo 1 (some .int) ∈ gl_ := wg_ 1139 (by decide +kernel) rfl
set_option maxRecDepth 100000 in
theorem wc_X10_waiting : Cond.code yX10_waiting cX10_waiting 4 (some .int) ∈ gl_ := wg_ 787 (by decide +kernel) rfl
set_option maxRecDepth 100000 in
theorem wc_X10_waits : Cond.code yX10_waits cX10_waits 4 (some .int) ∈ gl_ := wg_ 779 (by decide +kernel) rfl
set_option maxRecDepth 100000 in
theorem wc_X10_war : Cond.code yX10_war cX10_war 2 (some .int) ∈ gl_ := wg_ 485 (by decide +kernel) rfl
set_option maxRecDepth 100000 in
theorem wc_X10_who : Cond.code yX10_who cX10_who 2 (some .int) ∈ gl_ := wg_ 747 (by decide +kernel) rfl
set_option maxRecDepth 100000 in
theorem wc_X10_why : Cond.code yX10_why cX10_why 3 (some .int) ∈ gl_ := wg_ 739 (by decide +kernel) rfl
set_option maxRecDepth 100000 in
theorem wc_X10_write : Cond.code yX10_write cX10_write 6 (some .int) ∈ gl_ := wg_ 1211 (by decide +kernel) rfl
set_option maxRecDepth 100000 in
theorem wc_X10_years : Cond.code yX10_years cX10_years 5 (some .int) ∈ gl_ := wg_ 830 (by decide +kernel) rfl
set_option maxRecDepth 100000 in
theorem wc_X11_advance : Cond.code yX11_advance cX11_advance 2 none ∈ gl_ := wg_ 1379 (by decide +kernel) rfl
set_option maxRecDepth 100000 in
theorem wc_X11_age : Cond.code yX11_age cX11_age 4 (some .int) ∈ gl_ := wg_ 1793 (by decide +kernel) rfl
set_option maxRecDepth 100000 in
theorem wc_X11_ageOf : Cond.code yX11_ageOf cX11_ageOf 7 (some .int) ∈ gl_ := wg_ 1797 (by decide +kernel) rfl
set_option maxRecDepth 100000 in
theorem wc_X11_alike : Cond.code yX11_alike cX11_alike 5 (some .int) ∈ gl_ := wg_ 1648 (by decide +kernel) rfl
set_option maxRecDepth 100000 in
theorem wc_X11_allLands : Cond.code yX11_allLands cX11_allLands 1 (some .int) ∈ gl_ := wg_ 1593 (by decide +kernel) rfl
set_option maxRecDepth 100000 in
theorem wc_X11_alone : Cond.code yX11_alone cX11_alone 5 (some .int) ∈ gl_ := wg_ 1825 (by decide +kernel) rfl
set_option maxRecDepth 100000 in
theorem wc_X11_aloneOf : Cond.code yX11_aloneOf cX11_aloneOf 7 (some .int) ∈ gl_ := wg_ 1829 (by decide +kernel) rfl
set_option maxRecDepth 100000 in
theorem wc_X11_apart : Cond.code yX11_apart cX11_apart 6 (some .int) ∈ gl_ := wg_ 1723 (by decide +kernel) rfl
set_option maxRecDepth 100000 in
theorem wc_X11_areSaints : Cond.code yX11_areSaints cX11_areSaints 6 (some .boolean) ∈ gl_ := wg_ 1668 (by decide +kernel) rfl
set_option maxRecDepth 100000 in
theorem wc_X11_areTwo : Cond.code yX11_areTwo cX11_areTwo 3 (some .boolean) ∈ gl_ := wg_ 1635 (by decide +kernel) rfl
set_option maxRecDepth 100000 in
theorem wc_X11_ask : Cond.code yX11_ask cX11_ask 5 (some .int) ∈ gl_ := wg_ 1761 (by decide +kernel) rfl
set_option maxRecDepth 100000 in
theorem wc_X11_askOf : Cond.code yX11_askOf cX11_askOf 8 (some .int) ∈ gl_ := wg_ 1765 (by decide +kernel) rfl
set_option maxRecDepth 100000 in
theorem wc_X11_asksOrders : Cond.code yX11_asksOrders cX11_asksOrders 3 (some .int) ∈ gl_ := wg_ 1700 (by decide +kernel) rfl
set_option maxRecDepth 100000 in
theorem wc_X11_asksSeen : Cond.code yX11_asksSeen cX11_asksSeen 6 (some .int) ∈ gl_ := wg_ 1736 (by decide +kernel) rfl
set_option maxRecDepth 100000 in
theorem wc_X11_back : Cond.code yX11_back cX11_back 3 (some .int) ∈ gl_ := wg_ 1359 (by decide +kernel) rfl
set_option maxRecDepth 100000 in
theorem wc_X11_begin : Cond.code yX11_begin cX11_begin 6 (some .int) ∈ gl_ := wg_ 1833 (by decide +kernel) rfl
set_option maxRecDepth 100000 in
theorem wc_X11_beginOf : Cond.code yX11_beginOf cX11_beginOf 9 (some .int) ∈ gl_ := wg_ 1842 (by decide +kernel) rfl
set_option maxRecDepth 100000 in
theorem wc_X11_begins : Cond.code yX11_begins cX11_begins 6 (some .int) ∈ gl_ := wg_ 1846 (by decide +kernel) rfl
set_option maxRecDepth 100000 in
theorem wc_X11_behind : Cond.code yX11_behind cX11_behind 4 (some .int) ∈ gl_ := wg_ 1872 (by decide +kernel) rfl
set_option maxRecDepth 100000 in
theorem wc_X11_bestTake : Cond.code yX11_bestTake cX11_bestTake 3 (some .int) ∈ gl_ := wg_ 1869 (by decide +kernel) rfl
set_option maxRecDepth 100000 in
theorem wc_X11_bit : Cond.code yX11_bit cX11_bit 2 (some .int) ∈ gl_ := wg_ 1537 (by decide +kernel) rfl
set_option maxRecDepth 100000 in
theorem wc_X11_bridge : Cond.code yX11_bridge cX11_bridge 5 (some .int) ∈ gl_ := wg_ 1684 (by decide +kernel) rfl
set_option maxRecDepth 100000 in
theorem wc_X11_bridged : Cond.code yX11_bridged cX11_bridged 5 (some .int) ∈ gl_ := wg_ 1692 (by decide +kernel) rfl
set_option maxRecDepth 100000 in
theorem wc_X11_clash : Cond.code yX11_clash cX11_clash 5 (some .int) ∈ gl_ := wg_ 1809 (by decide +kernel) rfl
set_option maxRecDepth 100000 in
theorem wc_X11_comes : Cond.code yX11_comes cX11_comes 4 (some .int) ∈ gl_ := wg_ 1660 (by decide +kernel) rfl
set_option maxRecDepth 100000 in
theorem wc_X11_copy : Cond.code yX11_copy cX11_copy 4 none ∈ gl_ := wg_ 1863 (by decide +kernel) rfl
set_option maxRecDepth 100000 in
theorem wc_X11_count : Cond.code yX11_count cX11_count 4 (some .int) ∈ gl_ := wg_ 1924 (by decide +kernel) rfl
set_option maxRecDepth 100000 in
theorem wc_X11_cut : Cond.code yX11_cut cX11_cut 4 (some .long) ∈ gl_ := wg_ 1935 (by decide +kernel) rfl
set_option maxRecDepth 100000 in
theorem wc_X11_date : Cond.code yX11_date cX11_date 4 (some .int) ∈ gl_ := wg_ 1512 (by decide +kernel) rfl
set_option maxRecDepth 100000 in
theorem wc_X11_dateOf : Cond.code yX11_dateOf cX11_dateOf 4 (some .int) ∈ gl_ := wg_ 1541 (by decide +kernel) rfl
set_option maxRecDepth 100000 in
theorem wc_X11_day : Cond.code yX11_day cX11_day 6 (some .int) ∈ gl_ := wg_ 1545 (by decide +kernel) rfl
set_option maxRecDepth 100000 in
theorem wc_X11_dayAt : Cond.code yX11_dayAt cX11_dayAt 3 (some .int) ∈ gl_ := wg_ 1715 (by decide +kernel) rfl
set_option maxRecDepth 100000 in
theorem wc_X11_dayBy : Cond.code yX11_dayBy cX11_dayBy 7 (some .int) ∈ gl_ := wg_ 1553 (by decide +kernel) rfl
set_option maxRecDepth 100000 in
theorem wc_X11_divisor : Cond.code yX11_divisor cX11_divisor 5 (some .int) ∈ gl_ := wg_ 1627 (by decide +kernel) rfl
set_option maxRecDepth 100000 in
theorem wc_X11_drawn : Cond.code yX11_drawn cX11_drawn 5 (some .int) ∈ gl_ := wg_ 1903 (by decide +kernel) rfl
set_option maxRecDepth 100000 in
theorem wc_X11_end : Cond.code yX11_end cX11_end 2 (some .int) ∈ gl_ := wg_ 1367 (by decide +kernel) rfl
set_option maxRecDepth 100000 in
theorem wc_X11_ends : Cond.code yX11_ends cX11_ends 4 (some .int) ∈ gl_ := wg_ 1895 (by decide +kernel) rfl
set_option maxRecDepth 100000 in
theorem wc_X11_errs : Cond.code yX11_errs cX11_errs 2 none ∈ gl_ := wg_ 1416 (by decide +kernel) rfl
set_option maxRecDepth 100000 in
theorem wc_X11_fault : Cond.code yX11_fault cX11_fault 2 (some .int) ∈ gl_ := wg_ 1371 (by decide +kernel) rfl
set_option maxRecDepth 100000 in
theorem wc_X11_feast : Cond.code yX11_feast cX11_feast 3 (some .int) ∈ gl_ := wg_ 1495 (by decide +kernel) rfl
set_option maxRecDepth 100000 in
theorem wc_X11_feed : Cond.code yX11_feed cX11_feed 7 (some .int) ∈ gl_ := wg_ 1363 (by decide +kernel) rfl
set_option maxRecDepth 100000 in
theorem wc_X11_findBridge : Cond.code yX11_findBridge cX11_findBridge 8 none ∈ gl_ := wg_ 1688 (by decide +kernel) rfl
set_option maxRecDepth 100000 in
theorem wc_X11_findClash : Cond.code yX11_findClash cX11_findClash 9 none ∈ gl_ := wg_ 1817 (by decide +kernel) rfl
set_option maxRecDepth 100000 in
theorem wc_X11_findSaints : Cond.code yX11_findSaints cX11_findSaints 9 none ∈ gl_ := wg_ 1674 (by decide +kernel) rfl
set_option maxRecDepth 100000 in
theorem wc_X11_findWait : Cond.code yX11_findWait cX11_findWait 6 none ∈ gl_ := wg_ 1616 (by decide +kernel) rfl
set_option maxRecDepth 100000 in
theorem wc_X11_fit : Cond.code yX11_fit cX11_fit 8 (some .int) ∈ gl_ := wg_ 1753 (by decide +kernel) rfl
set_option maxRecDepth 100000 in
theorem wc_X11_fits : Cond.code yX11_fits cX11_fits 5 (some .int) ∈ gl_ := wg_ 1732 (by decide +kernel) rfl
set_option maxRecDepth 100000 in
theorem wc_X11_fitsOf : Cond.code yX11_fitsOf cX11_fitsOf 6 (some .int) ∈ gl_ := wg_ 1741 (by decide +kernel) rfl
set_option maxRecDepth 100000 in
theorem wc_X11_found : Cond.code yX11_found cX11_found 6 (some .int) ∈ gl_ := wg_ 1883 (by decide +kernel) rfl
set_option maxRecDepth 100000 in
theorem wc_X11_founded : Cond.code yX11_founded cX11_founded 6 (some .long) ∈ gl_ := wg_ 1679 (by decide +kernel) rfl
set_option maxRecDepth 100000 in
theorem wc_X11_freshLand : Cond.code yX11_freshLand cX11_freshLand 1 (some .int) ∈ gl_ := wg_ 1456 (by decide +kernel) rfl
set_option maxRecDepth 100000 in
theorem wc_X11_gains : Cond.code yX11_gains cX11_gains 7 (some .int) ∈ gl_ := wg_ 1801 (by decide +kernel) rfl
set_option maxRecDepth 100000 in
theorem wc_X11_game : Cond.code yX11_game cX11_game 5 (some .int) ∈ gl_ := wg_ 1850 (by decide +kernel) rfl
set_option maxRecDepth 100000 in
theorem wc_X11_goRain : Cond.code yX11_goRain cX11_goRain 10 none ∈ gl_ := wg_ 1912 (by decide +kernel) rfl
set_option maxRecDepth 100000 in
theorem wc_X11_good : Cond.code yX11_good cX11_good 1 (some .boolean) ∈ gl_ := wg_ 1393 (by decide +kernel) rfl
set_option maxRecDepth 100000 in
theorem wc_X11_grant : Cond.code yX11_grant cX11_grant 5 (some .int) ∈ gl_ := wg_ 1891 (by decide +kernel) rfl
set_option maxRecDepth 100000 in
theorem wc_X11_holdOn : Cond.code yX11_holdOn cX11_holdOn 4 (some .int) ∈ gl_ := wg_ 1781 (by decide +kernel) rfl
set_option maxRecDepth 100000 in
theorem wc_X11_holds : Cond.code yX11_holds cX11_holds 2 (some .int) ∈ gl_ := wg_ 1777 (by decide +kernel) rfl
set_option maxRecDepth 100000 in
theorem wc_X11_idle : Cond.code yX11_idle cX11_idle 5 (some .int) ∈ gl_ := wg_ 1728 (by decide +kernel) rfl
set_option maxRecDepth 100000 in
theorem wc_X11_image : Cond.code yX11_image cX11_image 3 (some .int) ∈ gl_ := wg_ 1351 (by decide +kernel) rfl
set_option maxRecDepth 100000 in
theorem wc_X11_in : Cond.code yX11_in cX11_in 6 (some .boolean) ∈ gl_ := wg_ 1355 (by decide +kernel) rfl
set_option maxRecDepth 100000 in
theorem wc_X11_init : Cond.code yX11_init cX11_init 1 none ∈ gl_ := wg_ 1229 (by decide +kernel) rfl
set_option maxRecDepth 100000 in
theorem wc_X11_intAt : Cond.code yX11_intAt cX11_intAt 3 (some .int) ∈ gl_ := wg_ 1711 (by decide +kernel) rfl
set_option maxRecDepth 100000 in
theorem wc_X11_is : Cond.code yX11_is cX11_is 4 (some .boolean) ∈ gl_ := wg_ 1410 (by decide +kernel) rfl
set_option maxRecDepth 100000 in
theorem wc_X11_isBegin : Cond.code yX11_isBegin cX11_isBegin 6 (some .boolean) ∈ gl_ := wg_ 1837 (by decide +kernel) rfl
set_option maxRecDepth 100000 in
theorem wc_X11_isClash : Cond.code yX11_isClash cX11_isClash 5 (some .boolean) ∈ gl_ := wg_ 1813 (by decide +kernel) rfl
set_option maxRecDepth 100000 in
theorem wc_X11_isCounted : Cond.code yX11_isCounted cX11_isCounted 3 (some .boolean) ∈ gl_ := wg_ 1652 (by decide +kernel) rfl
set_option maxRecDepth 100000 in
theorem wc_X11_isDate : Cond.code yX11_isDate cX11_isDate 8 (some .boolean) ∈ gl_ := wg_ 1549 (by decide +kernel) rfl
set_option maxRecDepth 100000 in
theorem wc_X11_isDay : Cond.code yX11_isDay cX11_isDay 2 (some .boolean) ∈ gl_ := wg_ 1515 (by decide +kernel) rfl
set_option maxRecDepth 100000 in
theorem wc_X11_isGame : Cond.code yX11_isGame cX11_isGame 5 (some .boolean) ∈ gl_ := wg_ 1854 (by decide +kernel) rfl
set_option maxRecDepth 100000 in
theorem wc_X11_isLand : Cond.code yX11_isLand cX11_isLand 3 (some .boolean) ∈ gl_ := wg_ 1470 (by decide +kernel) rfl
set_option maxRecDepth 100000 in
theorem wc_X11_isMonth : Cond.code yX11_isMonth cX11_isMonth 4 (some .boolean) ∈ gl_ := wg_ 1483 (by decide +kernel) rfl
set_option maxRecDepth 100000 in
theorem wc_X11_isSeed : Cond.code yX11_isSeed cX11_isSeed 1 (some .boolean) ∈ gl_ := wg_ 1906 (by decide +kernel) rfl
set_option maxRecDepth 100000 in
theorem wc_X11_isSeen : Cond.code yX11_isSeen cX11_isSeen 5 (some .boolean) ∈ gl_ := wg_ 1745 (by decide +kernel) rfl
set_option maxRecDepth 100000 in
theorem wc_X11_isSet : Cond.code yX11_isSet cX11_isSet 2 (some .boolean) ∈ gl_ := wg_ 1589 (by decide +kernel) rfl
set_option maxRecDepth 100000 in
theorem wc_X11_isSlot : Cond.code yX11_isSlot cX11_isSlot 1 (some .boolean) ∈ gl_ := wg_ 1703 (by decide +kernel) rfl
set_option maxRecDepth 100000 in
theorem wc_X11_isSpan : Cond.code yX11_isSpan cX11_isSpan 2 (some .boolean) ∈ gl_ := wg_ 1604 (by decide +kernel) rfl
set_option maxRecDepth 100000 in
theorem wc_X11_isWar : Cond.code yX11_isWar cX11_isWar 1 (some .boolean) ∈ gl_ := wg_ 1577 (by decide +kernel) rfl
set_option maxRecDepth 100000 in
theorem wc_X11_isWeekday : Cond.code yX11_isWeekday cX11_isWeekday 3 (some .boolean) ∈ gl_ := wg_ 1639 (by decide +kernel) rfl
set_option maxRecDepth 100000 in
theorem wc_X11_isYear : Cond.code yX11_isYear cX11_isYear 2 (some .boolean) ∈ gl_ := wg_ 1486 (by decide +kernel) rfl
set_option maxRecDepth 100000 in
theorem wc_X11_keepChange : Cond.code yX11_keepChange cX11_keepChange 5 none ∈ gl_ := wg_ 1887 (by decide +kernel) rfl
set_option maxRecDepth 100000 in
theorem wc_X11_land : Cond.code yX11_land cX11_land 3 (some .int) ∈ gl_ := wg_ 1466 (by decide +kernel) rfl
set_option maxRecDepth 100000 in
theorem wc_X11_lay : Cond.code yX11_lay cX11_lay 2 none ∈ gl_ := wg_ 1519 (by decide +kernel) rfl
set_option maxRecDepth 100000 in
theorem wc_X11_layDates : Cond.code yX11_layDates cX11_layDates 7 none ∈ gl_ := wg_ 1523 (by decide +kernel) rfl
set_option maxRecDepth 100000 in
theorem wc_X11_layWhy : Cond.code yX11_layWhy cX11_layWhy 5 none ∈ gl_ := wg_ 1530 (by decide +kernel) rfl
set_option maxRecDepth 100000 in
theorem wc_X11_leaves : Cond.code yX11_leaves cX11_leaves 5 (some .int) ∈ gl_ := wg_ 1773 (by decide +kernel) rfl
set_option maxRecDepth 100000 in
theorem wc_X11_lengthOf : Cond.code yX11_lengthOf cX11_lengthOf 4 (some .int) ∈ gl_ := wg_ 1491 (by decide +kernel) rfl
set_option maxRecDepth 100000 in
theorem wc_X11_luck : Cond.code yX11_luck cX11_luck 8 (some .int) ∈ gl_ := wg_ 1920 (by decide +kernel) rfl
set_option maxRecDepth 100000 in
theorem wc_X11_many : Cond.code yX11_many cX11_many 4 (some .int) ∈ gl_ := wg_ 1601 (by decide +kernel) rfl
set_option maxRecDepth 100000 in
theorem wc_X11_manyOf : Cond.code yX11_manyOf cX11_manyOf 6 (some .int) ∈ gl_ := wg_ 1608 (by decide +kernel) rfl
set_option maxRecDepth 100000 in
theorem wc_X11_march : Cond.code yX11_march cX11_march 6 (some .int) ∈ gl_ := wg_ 1805 (by decide +kernel) rfl
set_option maxRecDepth 100000 in
theorem wc_X11_may : Cond.code yX11_may cX11_may 3 (some .int) ∈ gl_ := wg_ 1561 (by decide +kernel) rfl
set_option maxRecDepth 100000 in
theorem wc_X11_mayAll : Cond.code yX11_mayAll cX11_mayAll 3 (some .boolean) ∈ gl_ := wg_ 1597 (by decide +kernel) rfl
set_option maxRecDepth 100000 in
theorem wc_X11_mayOn : Cond.code yX11_mayOn cX11_mayOn 3 (some .boolean) ∈ gl_ := wg_ 1565 (by decide +kernel) rfl
set_option maxRecDepth 100000 in
theorem wc_X11_meets : Cond.code yX11_meets cX11_meets 8 (some .int) ∈ gl_ := wg_ 1631 (by decide +kernel) rfl
set_option maxRecDepth 100000 in
theorem wc_X11_month : Cond.code yX11_month cX11_month 4 (some .int) ∈ gl_ := wg_ 1479 (by decide +kernel) rfl
set_option maxRecDepth 100000 in
theorem wc_X11_most : Cond.code yX11_most cX11_most 3 (some .int) ∈ gl_ := wg_ 1789 (by decide +kernel) rfl
set_option maxRecDepth 100000 in
theorem wc_X11_needs : Cond.code yX11_needs cX11_needs 2 none ∈ gl_ := wg_ 1402 (by decide +kernel) rfl
set_option maxRecDepth 100000 in
theorem wc_X11_next : Cond.code yX11_next cX11_next 4 (some .int) ∈ gl_ := wg_ 1585 (by decide +kernel) rfl
set_option maxRecDepth 100000 in
theorem wc_X11_number : Cond.code yX11_number cX11_number 4 (some .int) ∈ gl_ := wg_ 1425 (by decide +kernel) rfl
set_option maxRecDepth 100000 in
theorem wc_X11_numberAt : Cond.code yX11_numberAt cX11_numberAt 3 (some .long) ∈ gl_ := wg_ 1707 (by decide +kernel) rfl
set_option maxRecDepth 100000 in
theorem wc_X11_of : Cond.code yX11_of cX11_of 3 (some .int) ∈ gl_ := wg_ 1475 (by decide +kernel) rfl
set_option maxRecDepth 100000 in
theorem wc_X11_ofFeast : Cond.code yX11_ofFeast cX11_ofFeast 3 (some .int) ∈ gl_ := wg_ 1500 (by decide +kernel) rfl
set_option maxRecDepth 100000 in
theorem wc_X11_ofTruce : Cond.code yX11_ofTruce cX11_ofTruce 3 (some .int) ∈ gl_ := wg_ 1508 (by decide +kernel) rfl
set_option maxRecDepth 100000 in
theorem wc_X11_older : Cond.code yX11_older cX11_older 6 (some .int) ∈ gl_ := wg_ 1719 (by decide +kernel) rfl
set_option maxRecDepth 100000 in
theorem wc_X11_oldest : Cond.code yX11_oldest cX11_oldest 5 (some .int) ∈ gl_ := wg_ 1696 (by decide +kernel) rfl
set_option maxRecDepth 100000 in
theorem wc_X11_overlap : Cond.code yX11_overlap cX11_overlap 4 (some .int) ∈ gl_ := wg_ 1785 (by decide +kernel) rfl
set_option maxRecDepth 100000 in
theorem wc_X11_paste : Cond.code yX11_paste cX11_paste 7 (some .int) ∈ gl_ := wg_ 1939 (by decide +kernel) rfl
set_option maxRecDepth 100000 in
theorem wc_X11_period : Cond.code yX11_period cX11_period 4 (some .int) ∈ gl_ := wg_ 1644 (by decide +kernel) rfl
set_option maxRecDepth 100000 in
theorem wc_X11_place : Cond.code yX11_place cX11_place 5 (some .int) ∈ gl_ := wg_ 1821 (by decide +kernel) rfl
set_option maxRecDepth 100000 in
theorem wc_X11_play : Cond.code yX11_play cX11_play 7 none ∈ gl_ := wg_ 1859 (by decide +kernel) rfl
set_option maxRecDepth 100000 in
theorem wc_X11_rank : Cond.code yX11_rank cX11_rank 2 (some .int) ∈ gl_ := wg_ 1875 (by decide +kernel) rfl
set_option maxRecDepth 100000 in
theorem wc_X11_readFeast : Cond.code yX11_readFeast cX11_readFeast 3 none ∈ gl_ := wg_ 1452 (by decide +kernel) rfl
set_option maxRecDepth 100000 in
theorem wc_X11_readLand : Cond.code yX11_readLand cX11_readLand 2 none ∈ gl_ := wg_ 1436 (by decide +kernel) rfl
set_option maxRecDepth 100000 in
theorem wc_X11_readLine : Cond.code yX11_readLine cX11_readLine 1 none ∈ gl_ := wg_ 1397 (by decide +kernel) rfl
set_option maxRecDepth 100000 in
theorem wc_X11_readMonths : Cond.code yX11_readMonths cX11_readMonths 4 none ∈ gl_ := wg_ 1444 (by decide +kernel) rfl
set_option maxRecDepth 100000 in
theorem wc_X11_readNext : Cond.code yX11_readNext cX11_readNext 2 none ∈ gl_ := wg_ 1429 (by decide +kernel) rfl
set_option maxRecDepth 100000 in
theorem wc_X11_readTruce : Cond.code yX11_readTruce cX11_readTruce 2 none ∈ gl_ := wg_ 1461 (by decide +kernel) rfl
set_option maxRecDepth 100000 in
theorem wc_X11_row : Cond.code yX11_row cX11_row 5 (some .int) ∈ gl_ := wg_ 1928 (by decide +kernel) rfl
set_option maxRecDepth 100000 in
theorem wc_X11_saints : Cond.code yX11_saints cX11_saints 6 (some .int) ∈ gl_ := wg_ 1664 (by decide +kernel) rfl
set_option maxRecDepth 100000 in
theorem wc_X11_see : Cond.code yX11_see cX11_see 2 (some .int) ∈ gl_ := wg_ 1383 (by decide +kernel) rfl
set_option maxRecDepth 100000 in
theorem wc_X11_seen : Cond.code yX11_seen cX11_seen 4 (some .int) ∈ gl_ := wg_ 1749 (by decide +kernel) rfl
set_option maxRecDepth 100000 in
theorem wc_X11_share : Cond.code yX11_share cX11_share 7 (some .int) ∈ gl_ := wg_ 1624 (by decide +kernel) rfl
set_option maxRecDepth 100000 in
theorem wc_X11_spot : Cond.code yX11_spot cX11_spot 2 (some .int) ∈ gl_ := wg_ 1526 (by decide +kernel) rfl
set_option maxRecDepth 100000 in
theorem wc_X11_sure : Cond.code yX11_sure cX11_sure 10 (some .int) ∈ gl_ := wg_ 1757 (by decide +kernel) rfl
set_option maxRecDepth 100000 in
theorem wc_X11_takes : Cond.code yX11_takes cX11_takes 3 (some .boolean) ∈ gl_ := wg_ 1406 (by decide +kernel) rfl
set_option maxRecDepth 100000 in
theorem wc_X11_takes_ : Cond.code yX11_takes_ cX11_takes_ 8 (some .int) ∈ gl_ := wg_ 1879 (by decide +kernel) rfl
set_option maxRecDepth 100000 in
theorem wc_X11_told : Cond.code yX11_told cX11_told 4 (some .int) ∈ gl_ := wg_ 1421 (by decide +kernel) rfl
set_option maxRecDepth 100000 in
theorem wc_X11_truce : Cond.code yX11_truce cX11_truce 3 (some .int) ∈ gl_ := wg_ 1504 (by decide +kernel) rfl
set_option maxRecDepth 100000 in
theorem wc_X11_turn : Cond.code yX11_turn cX11_turn 4 none ∈ gl_ := wg_ 1866 (by decide +kernel) rfl
set_option maxRecDepth 100000 in
theorem wc_X11_undo : Cond.code yX11_undo cX11_undo 4 (some .int) ∈ gl_ := wg_ 1899 (by decide +kernel) rfl
set_option maxRecDepth 100000 in
theorem wc_X11_waiting : Cond.code yX11_waiting cX11_waiting 4 (some .int) ∈ gl_ := wg_ 1620 (by decide +kernel) rfl
set_option maxRecDepth 100000 in
theorem wc_X11_waits : Cond.code yX11_waits cX11_waits 4 (some .int) ∈ gl_ := wg_ 1612 (by decide +kernel) rfl
set_option maxRecDepth 100000 in
theorem wc_X11_war : Cond.code yX11_war cX11_war 2 (some .int) ∈ gl_ := wg_ 1375 (by decide +kernel) rfl
set_option maxRecDepth 100000 in
theorem wc_X11_weekday : Cond.code yX11_weekday cX11_weekday 3 (some .int) ∈ gl_ := wg_ 1534 (by decide +kernel) rfl
set_option maxRecDepth 100000 in
theorem wc_X11_who : Cond.code yX11_who cX11_who 2 (some .int) ∈ gl_ := wg_ 1573 (by decide +kernel) rfl
set_option maxRecDepth 100000 in
theorem wc_X11_whoOn : Cond.code yX11_whoOn cX11_whoOn 4 (some .int) ∈ gl_ := wg_ 1581 (by decide +kernel) rfl
set_option maxRecDepth 100000 in
theorem wc_X11_why : Cond.code yX11_why cX11_why 3 (some .int) ∈ gl_ := wg_ 1569 (by decide +kernel) rfl
set_option maxRecDepth 100000 in
theorem wc_X11_worstOf : Cond.code yX11_worstOf cX11_worstOf 9 (some .int) ∈ gl_ := wg_ 1769 (by decide +kernel) rfl
set_option maxRecDepth 100000 in
theorem wc_X11_write : Cond.code yX11_write cX11_write 5 (some .int) ∈ gl_ := wg_ 1932 (by decide +kernel) rfl
set_option maxRecDepth 100000 in
theorem wc_X11_yearLength : Cond.code yX11_yearLength cX11_yearLength 5 (some .int) ∈ gl_ := wg_ 1557 (by decide +kernel) rfl
set_option maxRecDepth 100000 in
theorem wc_X11_years : Cond.code yX11_years cX11_years 4 (some .int) ∈ gl_ := wg_ 1656 (by decide +kernel) rfl
set_option maxRecDepth 100000 in
theorem wc_X1_appendMonth : Cond.code yX1_appendMonth cX1_appendMonth 2 none ∈ gl_ := wg_ 597 (by decide +kernel) rfl
set_option maxRecDepth 100000 in
theorem wc_X1_clear : Cond.code yX1_clear cX1_clear 1 none ∈ gl_ := wg_ 585 (by decide +kernel) rfl
set_option maxRecDepth 100000 in
theorem wc_X1_copyOf : Cond.code yX1_copyOf cX1_copyOf 2 none ∈ gl_ := wg_ 1191 (by decide +kernel) rfl
set_option maxRecDepth 100000 in
theorem wc_X1_dayOn : Cond.code yX1_dayOn cX1_dayOn 7 (some .int) ∈ gl_ := wg_ 706 (by decide +kernel) rfl
set_option maxRecDepth 100000 in
theorem wc_X1_hasWeekday : Cond.code yX1_hasWeekday cX1_hasWeekday 2 (some .boolean) ∈ gl_ := wg_ 810 (by decide +kernel) rfl
set_option maxRecDepth 100000 in
theorem wc_X1_init : Cond.code yX1_init cX1_init 1 none ∈ gl_ := wg_ 166 (by decide +kernel) rfl
set_option maxRecDepth 100000 in
theorem wc_X1_isLeapYear : Cond.code yX1_isLeapYear cX1_isLeapYear 2 (some .boolean) ∈ gl_ := wg_ 659 (by decide +kernel) rfl
set_option maxRecDepth 100000 in
theorem wc_X1_leapCycle : Cond.code yX1_leapCycle cX1_leapCycle 1 (some .int) ∈ gl_ := wg_ 818 (by decide +kernel) rfl
set_option maxRecDepth 100000 in
theorem wc_X1_lengthIn : Cond.code yX1_lengthIn cX1_lengthIn 3 (some .int) ∈ gl_ := wg_ 655 (by decide +kernel) rfl
set_option maxRecDepth 100000 in
theorem wc_X2_datedAtRest : Cond.code yX2_datedAtRest cX2_datedAtRest 4 (some .int) ∈ gl_ := wg_ 927 (by decide +kernel) rfl
set_option maxRecDepth 100000 in
theorem wc_X2_daysApart : Cond.code yX2_daysApart cX2_daysApart 4 (some .int) ∈ gl_ := wg_ 915 (by decide +kernel) rfl
set_option maxRecDepth 100000 in
theorem wc_X2_earlierThan : Cond.code yX2_earlierThan cX2_earlierThan 4 (some .int) ∈ gl_ := wg_ 907 (by decide +kernel) rfl
set_option maxRecDepth 100000 in
theorem wc_X2_init : Cond.code yX2_init cX2_init 1 none ∈ gl_ := wg_ 337 (by decide +kernel) rfl
set_option maxRecDepth 100000 in
theorem wc_X2_placeOfOldest : Cond.code yX2_placeOfOldest cX2_placeOfOldest 3 (some .int) ∈ gl_ := wg_ 899 (by decide +kernel) rfl
set_option maxRecDepth 100000 in
theorem wc_X2_read : Cond.code yX2_read cX2_read 5 (some .boolean) ∈ gl_ := wg_ 889 (by decide +kernel) rfl
set_option maxRecDepth 100000 in
theorem wc_X3_init : Cond.code yX3_init cX3_init 1 none ∈ gl_ := wg_ 126 (by decide +kernel) rfl
set_option maxRecDepth 100000 in
theorem wc_X3_isWord : Cond.code yX3_isWord cX3_isWord 3 (some .boolean) ∈ gl_ := wg_ 507 (by decide +kernel) rfl
set_option maxRecDepth 100000 in
theorem wc_X3_needNumber : Cond.code yX3_needNumber cX3_needNumber 4 (some .int) ∈ gl_ := wg_ 572 (by decide +kernel) rfl
set_option maxRecDepth 100000 in
theorem wc_X3_needWord : Cond.code yX3_needWord cX3_needWord 2 none ∈ gl_ := wg_ 564 (by decide +kernel) rfl
set_option maxRecDepth 100000 in
theorem wc_X3_read : Cond.code yX3_read cX3_read 4 none ∈ gl_ := wg_ 489 (by decide +kernel) rfl
set_option maxRecDepth 100000 in
theorem wc_X3_readFeast : Cond.code yX3_readFeast cX3_readFeast 6 none ∈ gl_ := wg_ 605 (by decide +kernel) rfl
set_option maxRecDepth 100000 in
theorem wc_X3_readLand : Cond.code yX3_readLand cX3_readLand 3 none ∈ gl_ := wg_ 581 (by decide +kernel) rfl
set_option maxRecDepth 100000 in
theorem wc_X3_readLine : Cond.code yX3_readLine cX3_readLine 3 none ∈ gl_ := wg_ 502 (by decide +kernel) rfl
set_option maxRecDepth 100000 in
theorem wc_X3_readMonths : Cond.code yX3_readMonths cX3_readMonths 4 none ∈ gl_ := wg_ 593 (by decide +kernel) rfl
set_option maxRecDepth 100000 in
theorem wc_X3_readRain : Cond.code yX3_readRain cX3_readRain 2 none ∈ gl_ := wg_ 559 (by decide +kernel) rfl
set_option maxRecDepth 100000 in
theorem wc_X3_readTruce : Cond.code yX3_readTruce cX3_readTruce 5 none ∈ gl_ := wg_ 618 (by decide +kernel) rfl
set_option maxRecDepth 100000 in
theorem wc_X3_refuse : Cond.code yX3_refuse cX3_refuse 2 none ∈ gl_ := wg_ 568 (by decide +kernel) rfl
set_option maxRecDepth 100000 in
theorem wc_X3_startLine : Cond.code yX3_startLine cX3_startLine 2 none ∈ gl_ := wg_ 577 (by decide +kernel) rfl
set_option maxRecDepth 100000 in
theorem wc_X3_step : Cond.code yX3_step cX3_step 1 none ∈ gl_ := wg_ 497 (by decide +kernel) rfl
set_option maxRecDepth 100000 in
theorem wc_X4_areSmall : Cond.code yX4_areSmall cX4_areSmall 4 (some .boolean) ∈ gl_ := wg_ 893 (by decide +kernel) rfl
set_option maxRecDepth 100000 in
theorem wc_X4_cut : Cond.code yX4_cut cX4_cut 3 (some .long) ∈ gl_ := wg_ 1215 (by decide +kernel) rfl
set_option maxRecDepth 100000 in
theorem wc_X4_hasStretch : Cond.code yX4_hasStretch cX4_hasStretch 3 (some .boolean) ∈ gl_ := wg_ 1223 (by decide +kernel) rfl
set_option maxRecDepth 100000 in
theorem wc_X4_init : Cond.code yX4_init cX4_init 1 none ∈ gl_ := wg_ 403 (by decide +kernel) rfl
set_option maxRecDepth 100000 in
theorem wc_X4_renew : Cond.code yX4_renew cX4_renew 3 none ∈ gl_ := wg_ 1204 (by decide +kernel) rfl
set_option maxRecDepth 100000 in
theorem wc_X5_cover : Cond.code yX5_cover cX5_cover 6 none ∈ gl_ := wg_ 857 (by decide +kernel) rfl
set_option maxRecDepth 100000 in
theorem wc_X5_init : Cond.code yX5_init cX5_init 1 none ∈ gl_ := wg_ 319 (by decide +kernel) rfl
set_option maxRecDepth 100000 in
theorem wc_X5_openDays : Cond.code yX5_openDays cX5_openDays 6 none ∈ gl_ := wg_ 852 (by decide +kernel) rfl
set_option maxRecDepth 100000 in
theorem wc_X5_seek : Cond.code yX5_seek cX5_seek 9 none ∈ gl_ := wg_ 846 (by decide +kernel) rfl
set_option maxRecDepth 100000 in
theorem wc_X6_fightersOnAll : Cond.code yX6_fightersOnAll cX6_fightersOnAll 4 (some .int) ∈ gl_ := wg_ 962 (by decide +kernel) rfl
set_option maxRecDepth 100000 in
theorem wc_X6_fightersOnSome : Cond.code yX6_fightersOnSome cX6_fightersOnSome 4 (some .int) ∈ gl_ := wg_ 966 (by decide +kernel) rfl
set_option maxRecDepth 100000 in
theorem wc_X6_fitsAll : Cond.code yX6_fitsAll cX6_fitsAll 6 (some .boolean) ∈ gl_ := wg_ 949 (by decide +kernel) rfl
set_option maxRecDepth 100000 in
theorem wc_X6_gather : Cond.code yX6_gather cX6_gather 6 none ∈ gl_ := wg_ 945 (by decide +kernel) rfl
set_option maxRecDepth 100000 in
theorem wc_X6_init : Cond.code yX6_init cX6_init 1 none ∈ gl_ := wg_ 354 (by decide +kernel) rfl
set_option maxRecDepth 100000 in
theorem wc_X6_isTold : Cond.code yX6_isTold cX6_isTold 8 (some .boolean) ∈ gl_ := wg_ 940 (by decide +kernel) rfl
set_option maxRecDepth 100000 in
theorem wc_X6_seekQuestion : Cond.code yX6_seekQuestion cX6_seekQuestion 4 none ∈ gl_ := wg_ 974 (by decide +kernel) rfl
set_option maxRecDepth 100000 in
theorem wc_X6_tryQuestion : Cond.code yX6_tryQuestion cX6_tryQuestion 7 none ∈ gl_ := wg_ 978 (by decide +kernel) rfl
set_option maxRecDepth 100000 in
theorem wc_X7_bestTake : Cond.code yX7_bestTake cX7_bestTake 3 (some .int) ∈ gl_ := wg_ 1077 (by decide +kernel) rfl
set_option maxRecDepth 100000 in
theorem wc_X7_init : Cond.code yX7_init cX7_init 1 none ∈ gl_ := wg_ 380 (by decide +kernel) rfl
set_option maxRecDepth 100000 in
theorem wc_X7_listTurns : Cond.code yX7_listTurns cX7_listTurns 7 none ∈ gl_ := wg_ 1072 (by decide +kernel) rfl
set_option maxRecDepth 100000 in
theorem wc_X7_play : Cond.code yX7_play cX7_play 8 none ∈ gl_ := wg_ 1068 (by decide +kernel) rfl
set_option maxRecDepth 100000 in
theorem wc_X7_winnerOf : Cond.code yX7_winnerOf cX7_winnerOf 4 (some .int) ∈ gl_ := wg_ 1085 (by decide +kernel) rfl
set_option maxRecDepth 100000 in
theorem wc_X7_worth : Cond.code yX7_worth cX7_worth 5 (some .int) ∈ gl_ := wg_ 1081 (by decide +kernel) rfl
set_option maxRecDepth 100000 in
theorem wc_X8_append : Cond.code yX8_append cX8_append 3 none ∈ gl_ := wg_ 477 (by decide +kernel) rfl
set_option maxRecDepth 100000 in
theorem wc_X8_init : Cond.code yX8_init cX8_init 1 none ∈ gl_ := wg_ 109 (by decide +kernel) rfl
set_option maxRecDepth 100000 in
theorem wc_X9_appendTruce : Cond.code yX9_appendTruce cX9_appendTruce 5 none ∈ gl_ := wg_ 623 (by decide +kernel) rfl
set_option maxRecDepth 100000 in
theorem wc_X9_clear : Cond.code yX9_clear cX9_clear 1 none ∈ gl_ := wg_ 493 (by decide +kernel) rfl
set_option maxRecDepth 100000 in
theorem wc_X9_copyOf : Cond.code yX9_copyOf cX9_copyOf 3 none ∈ gl_ := wg_ 1187 (by decide +kernel) rfl
set_option maxRecDepth 100000 in
theorem wc_X9_dayOfDate : Cond.code yX9_dayOfDate cX9_dayOfDate 6 (some .int) ∈ gl_ := wg_ 726 (by decide +kernel) rfl
set_option maxRecDepth 100000 in
theorem wc_X9_hasLand : Cond.code yX9_hasLand cX9_hasLand 2 (some .boolean) ∈ gl_ := wg_ 639 (by decide +kernel) rfl
set_option maxRecDepth 100000 in
theorem wc_X9_hasMonth : Cond.code yX9_hasMonth cX9_hasMonth 3 (some .boolean) ∈ gl_ := wg_ 647 (by decide +kernel) rfl
set_option maxRecDepth 100000 in
theorem wc_X9_hasPlainDate : Cond.code yX9_hasPlainDate cX9_hasPlainDate 4 (some .boolean) ∈ gl_ := wg_ 1097 (by decide +kernel) rfl
set_option maxRecDepth 100000 in
theorem wc_X9_init : Cond.code yX9_init cX9_init 2 none ∈ gl_ := wg_ 159 (by decide +kernel) rfl
set_option maxRecDepth 100000 in
theorem wc_X9_insertFeast : Cond.code yX9_insertFeast cX9_insertFeast 7 none ∈ gl_ := wg_ 610 (by decide +kernel) rfl
set_option maxRecDepth 100000 in
theorem wc_X9_latestFeastOf : Cond.code yX9_latestFeastOf cX9_latestFeastOf 3 (some .int) ∈ gl_ := wg_ 1127 (by decide +kernel) rfl
set_option maxRecDepth 100000 in
theorem wc_X9_noteChange : Cond.code yX9_noteChange cX9_noteChange 3 none ∈ gl_ := wg_ 1106 (by decide +kernel) rfl
set_option maxRecDepth 100000 in
theorem wc_X9_noteEnded : Cond.code yX9_noteEnded cX9_noteEnded 2 none ∈ gl_ := wg_ 1131 (by decide +kernel) rfl
set_option maxRecDepth 100000 in
theorem wc_X9_noteFounded : Cond.code yX9_noteFounded cX9_noteFounded 1 none ∈ gl_ := wg_ 1102 (by decide +kernel) rfl
set_option maxRecDepth 100000 in
theorem wc_X9_noteGranted : Cond.code yX9_noteGranted cX9_noteGranted 1 none ∈ gl_ := wg_ 1119 (by decide +kernel) rfl
set_option maxRecDepth 100000 in
theorem wc_X9_removeFeast : Cond.code yX9_removeFeast cX9_removeFeast 3 none ∈ gl_ := wg_ 1135 (by decide +kernel) rfl
set_option maxRecDepth 100000 in
theorem wc_X9_takeBackLatest : Cond.code yX9_takeBackLatest cX9_takeBackLatest 3 (some .int) ∈ gl_ := wg_ 1143 (by decide +kernel) rfl
set_option maxRecDepth 100000 in
theorem wc_X9_trucesOn : Cond.code yX9_trucesOn cX9_trucesOn 5 (some .int) ∈ gl_ := wg_ 994 (by decide +kernel) rfl
set_option maxRecDepth 100000 in
theorem wn_X10 : Cond.initialized RX10 ∈ gl_ := wg_ 78 (by decide +kernel) rfl
set_option maxRecDepth 100000 in
theorem wn_X0 : Cond.initialized RX0 ∈ gl_ := wg_ 83 (by decide +kernel) rfl
set_option maxRecDepth 100000 in
theorem wn_X1 : Cond.initialized RX1 ∈ gl_ := wg_ 82 (by decide +kernel) rfl
set_option maxRecDepth 100000 in
theorem wn_X2 : Cond.initialized RX2 ∈ gl_ := wg_ 85 (by decide +kernel) rfl
set_option maxRecDepth 100000 in
theorem wn_X3 : Cond.initialized RX3 ∈ gl_ := wg_ 80 (by decide +kernel) rfl
set_option maxRecDepth 100000 in
theorem wn_X4 : Cond.initialized RX4 ∈ gl_ := wg_ 88 (by decide +kernel) rfl
set_option maxRecDepth 100000 in
theorem wn_X5 : Cond.initialized RX5 ∈ gl_ := wg_ 84 (by decide +kernel) rfl
set_option maxRecDepth 100000 in
theorem wn_X6 : Cond.initialized RX6 ∈ gl_ := wg_ 86 (by decide +kernel) rfl
set_option maxRecDepth 100000 in
theorem wn_X7 : Cond.initialized RX7 ∈ gl_ := wg_ 87 (by decide +kernel) rfl
set_option maxRecDepth 100000 in
theorem wn_X8 : Cond.initialized RX8 ∈ gl_ := wg_ 79 (by decide +kernel) rfl
set_option maxRecDepth 100000 in
theorem wn_X9 : Cond.initialized RX9 ∈ gl_ := wg_ 81 (by decide +kernel) rfl
set_option maxRecDepth 100000 in
theorem wn_L : Cond.initialized RL ∈ gl_ := wg_ 77 (by decide +kernel) rfl
set_option maxRecDepth 100000 in
theorem wn_X11 : Cond.initialized RX11 ∈ gl_ := wg_ 89 (by decide +kernel) rfl
set_option maxRecDepth 100000 in
theorem wn_J9 : Cond.initialized RJ9 ∈ gl_ := wg_ 95 (by decide +kernel) rfl
set_option maxRecDepth 100000 in
theorem wn_J0 : Cond.initialized RJ0 ∈ gl_ := wg_ 90 (by decide +kernel) rfl
set_option maxRecDepth 100000 in
theorem wn_J1 : Cond.initialized RJ1 ∈ gl_ := wg_ 91 (by decide +kernel) rfl
set_option maxRecDepth 100000 in
theorem wn_J2 : Cond.initialized RJ2 ∈ gl_ := wg_ 93 (by decide +kernel) rfl
set_option maxRecDepth 100000 in
theorem wn_J10 : Cond.initialized RJ10 ∈ gl_ := wg_ 94 (by decide +kernel) rfl
set_option maxRecDepth 100000 in
theorem wn_J7 : Cond.initialized RJ7 ∈ gl_ := wg_ 96 (by decide +kernel) rfl
set_option maxRecDepth 100000 in
theorem wn_J3 : Cond.initialized RJ3 ∈ gl_ := wg_ 92 (by decide +kernel) rfl
set_option maxRecDepth 100000 in
theorem wi_J0_charAt_5068e : Cond.instanceMethod yJ0_charAt_5068e ∈ gl_ := wg_ 519 (by decide +kernel) rfl
set_option maxRecDepth 100000 in
theorem wi_J0_coder_7d493 : Cond.instanceMethod yJ0_coder_7d493 ∈ gl_ := wg_ 513 (by decide +kernel) rfl
set_option maxRecDepth 100000 in
theorem wi_J0_isLatin1_aae02 : Cond.instanceMethod yJ0_isLatin1_aae02 ∈ gl_ := wg_ 523 (by decide +kernel) rfl
set_option maxRecDepth 100000 in
theorem wi_J0_length_8abf5 : Cond.instanceMethod yJ0_length_8abf5 ∈ gl_ := wg_ 509 (by decide +kernel) rfl
set_option maxRecDepth 100000 in
theorem wi_X0_ageBy : Cond.instanceMethod yX0_ageBy ∈ gl_ := wg_ 1009 (by decide +kernel) rfl
set_option maxRecDepth 100000 in
theorem wi_X0_allFight : Cond.instanceMethod yX0_allFight ∈ gl_ := wg_ 764 (by decide +kernel) rfl
set_option maxRecDepth 100000 in
theorem wi_X0_aloneOn : Cond.instanceMethod yX0_aloneOn ∈ gl_ := wg_ 1043 (by decide +kernel) rfl
set_option maxRecDepth 100000 in
theorem wi_X0_bringUpToDate : Cond.instanceMethod yX0_bringUpToDate ∈ gl_ := wg_ 684 (by decide +kernel) rfl
set_option maxRecDepth 100000 in
theorem wi_X0_clashDay : Cond.instanceMethod yX0_clashDay ∈ gl_ := wg_ 1027 (by decide +kernel) rfl
set_option maxRecDepth 100000 in
theorem wi_X0_daysAlone : Cond.instanceMethod yX0_daysAlone ∈ gl_ := wg_ 1039 (by decide +kernel) rfl
set_option maxRecDepth 100000 in
theorem wi_X0_fightingDays : Cond.instanceMethod yX0_fightingDays ∈ gl_ := wg_ 772 (by decide +kernel) rfl
set_option maxRecDepth 100000 in
theorem wi_X0_fillDates : Cond.instanceMethod yX0_fillDates ∈ gl_ := wg_ 691 (by decide +kernel) rfl
set_option maxRecDepth 100000 in
theorem wi_X0_fillFighters : Cond.instanceMethod yX0_fillFighters ∈ gl_ := wg_ 712 (by decide +kernel) rfl
set_option maxRecDepth 100000 in
theorem wi_X0_fillReasons : Cond.instanceMethod yX0_fillReasons ∈ gl_ := wg_ 696 (by decide +kernel) rfl
set_option maxRecDepth 100000 in
theorem wi_X0_forgetAll : Cond.instanceMethod yX0_forgetAll ∈ gl_ := wg_ 625 (by decide +kernel) rfl
set_option maxRecDepth 100000 in
theorem wi_X0_forgetReasons : Cond.instanceMethod yX0_forgetReasons ∈ gl_ := wg_ 1108 (by decide +kernel) rfl
set_option maxRecDepth 100000 in
theorem wi_X0_init : Cond.instanceMethod yX0_init ∈ gl_ := wg_ 277 (by decide +kernel) rfl
set_option maxRecDepth 100000 in
theorem wi_X0_markFeast : Cond.instanceMethod yX0_markFeast ∈ gl_ := wg_ 700 (by decide +kernel) rfl
set_option maxRecDepth 100000 in
theorem wi_X0_markReason : Cond.instanceMethod yX0_markReason ∈ gl_ := wg_ 708 (by decide +kernel) rfl
set_option maxRecDepth 100000 in
theorem wi_X0_monthDay : Cond.instanceMethod yX0_monthDay ∈ gl_ := wg_ 824 (by decide +kernel) rfl
set_option maxRecDepth 100000 in
theorem wi_X0_part : Cond.instanceMethod yX0_part ∈ gl_ := wg_ 716 (by decide +kernel) rfl
set_option maxRecDepth 100000 in
theorem wi_X0_reason : Cond.instanceMethod yX0_reason ∈ gl_ := wg_ 741 (by decide +kernel) rfl
set_option maxRecDepth 100000 in
theorem wi_X0_seekBeginning : Cond.instanceMethod yX0_seekBeginning ∈ gl_ := wg_ 1051 (by decide +kernel) rfl
set_option maxRecDepth 100000 in
theorem wi_X0_seekWait : Cond.instanceMethod yX0_seekWait ∈ gl_ := wg_ 781 (by decide +kernel) rfl
set_option maxRecDepth 100000 in
theorem wi_X10_age : Cond.instanceMethod yX10_age ∈ gl_ := wg_ 1005 (by decide +kernel) rfl
set_option maxRecDepth 100000 in
theorem wi_X10_alike : Cond.instanceMethod yX10_alike ∈ gl_ := wg_ 820 (by decide +kernel) rfl
set_option maxRecDepth 100000 in
theorem wi_X10_alone : Cond.instanceMethod yX10_alone ∈ gl_ := wg_ 1035 (by decide +kernel) rfl
set_option maxRecDepth 100000 in
theorem wi_X10_apart : Cond.instanceMethod yX10_apart ∈ gl_ := wg_ 909 (by decide +kernel) rfl
set_option maxRecDepth 100000 in
theorem wi_X10_ask : Cond.instanceMethod yX10_ask ∈ gl_ := wg_ 968 (by decide +kernel) rfl
set_option maxRecDepth 100000 in
theorem wi_X10_back : Cond.instanceMethod yX10_back ∈ gl_ := wg_ 1194 (by decide +kernel) rfl
set_option maxRecDepth 100000 in
theorem wi_X10_begin : Cond.instanceMethod yX10_begin ∈ gl_ := wg_ 1047 (by decide +kernel) rfl
set_option maxRecDepth 100000 in
theorem wi_X10_begins : Cond.instanceMethod yX10_begins ∈ gl_ := wg_ 1057 (by decide +kernel) rfl
set_option maxRecDepth 100000 in
theorem wi_X10_bridge : Cond.instanceMethod yX10_bridge ∈ gl_ := wg_ 868 (by decide +kernel) rfl
set_option maxRecDepth 100000 in
theorem wi_X10_bridged : Cond.instanceMethod yX10_bridged ∈ gl_ := wg_ 872 (by decide +kernel) rfl
set_option maxRecDepth 100000 in
theorem wi_X10_clash : Cond.instanceMethod yX10_clash ∈ gl_ := wg_ 1023 (by decide +kernel) rfl
set_option maxRecDepth 100000 in
theorem wi_X10_comes : Cond.instanceMethod yX10_comes ∈ gl_ := wg_ 832 (by decide +kernel) rfl
set_option maxRecDepth 100000 in
theorem wi_X10_count : Cond.instanceMethod yX10_count ∈ gl_ := wg_ 1173 (by decide +kernel) rfl
set_option maxRecDepth 100000 in
theorem wi_X10_date : Cond.instanceMethod yX10_date ∈ gl_ := wg_ 669 (by decide +kernel) rfl
set_option maxRecDepth 100000 in
theorem wi_X10_day : Cond.instanceMethod yX10_day ∈ gl_ := wg_ 720 (by decide +kernel) rfl
set_option maxRecDepth 100000 in
theorem wi_X10_drawn : Cond.instanceMethod yX10_drawn ∈ gl_ := wg_ 1146 (by decide +kernel) rfl
set_option maxRecDepth 100000 in
theorem wi_X10_end : Cond.instanceMethod yX10_end ∈ gl_ := wg_ 479 (by decide +kernel) rfl
set_option maxRecDepth 100000 in
theorem wi_X10_ends : Cond.instanceMethod yX10_ends ∈ gl_ := wg_ 1121 (by decide +kernel) rfl
set_option maxRecDepth 100000 in
theorem wi_X10_fault : Cond.instanceMethod yX10_fault ∈ gl_ := wg_ 629 (by decide +kernel) rfl
set_option maxRecDepth 100000 in
theorem wi_X10_feast : Cond.instanceMethod yX10_feast ∈ gl_ := wg_ 661 (by decide +kernel) rfl
set_option maxRecDepth 100000 in
theorem wi_X10_feed : Cond.instanceMethod yX10_feed ∈ gl_ := wg_ 471 (by decide +kernel) rfl
set_option maxRecDepth 100000 in
theorem wi_X10_fightsInRain : Cond.instanceMethod yX10_fightsInRain ∈ gl_ := wg_ 1170 (by decide +kernel) rfl
set_option maxRecDepth 100000 in
theorem wi_X10_fit : Cond.instanceMethod yX10_fit ∈ gl_ := wg_ 952 (by decide +kernel) rfl
set_option maxRecDepth 100000 in
theorem wi_X10_fits : Cond.instanceMethod yX10_fits ∈ gl_ := wg_ 930 (by decide +kernel) rfl
set_option maxRecDepth 100000 in
theorem wi_X10_found : Cond.instanceMethod yX10_found ∈ gl_ := wg_ 1091 (by decide +kernel) rfl
set_option maxRecDepth 100000 in
theorem wi_X10_founded : Cond.instanceMethod yX10_founded ∈ gl_ := wg_ 863 (by decide +kernel) rfl
set_option maxRecDepth 100000 in
theorem wi_X10_gains : Cond.instanceMethod yX10_gains ∈ gl_ := wg_ 1015 (by decide +kernel) rfl
set_option maxRecDepth 100000 in
theorem wi_X10_game : Cond.instanceMethod yX10_game ∈ gl_ := wg_ 1061 (by decide +kernel) rfl
set_option maxRecDepth 100000 in
theorem wi_X10_grant : Cond.instanceMethod yX10_grant ∈ gl_ := wg_ 1112 (by decide +kernel) rfl
set_option maxRecDepth 100000 in
theorem wi_X10_holds : Cond.instanceMethod yX10_holds ∈ gl_ := wg_ 988 (by decide +kernel) rfl
set_option maxRecDepth 100000 in
theorem wi_X10_idle : Cond.instanceMethod yX10_idle ∈ gl_ := wg_ 921 (by decide +kernel) rfl
set_option maxRecDepth 100000 in
theorem wi_X10_image : Cond.instanceMethod yX10_image ∈ gl_ := wg_ 1181 (by decide +kernel) rfl
set_option maxRecDepth 100000 in
theorem wi_X10_init : Cond.instanceMethod yX10_init ∈ gl_ := wg_ 100 (by decide +kernel) rfl
set_option maxRecDepth 100000 in
theorem wi_X10_isDayOfWar : Cond.instanceMethod yX10_isDayOfWar ∈ gl_ := wg_ 750 (by decide +kernel) rfl
set_option maxRecDepth 100000 in
theorem wi_X10_isLandAndDay : Cond.instanceMethod yX10_isLandAndDay ∈ gl_ := wg_ 674 (by decide +kernel) rfl
set_option maxRecDepth 100000 in
theorem wi_X10_isPair : Cond.instanceMethod yX10_isPair ∈ gl_ := wg_ 805 (by decide +kernel) rfl
set_option maxRecDepth 100000 in
theorem wi_X10_isPairAndDay : Cond.instanceMethod yX10_isPairAndDay ∈ gl_ := wg_ 801 (by decide +kernel) rfl
set_option maxRecDepth 100000 in
theorem wi_X10_isSaintly : Cond.instanceMethod yX10_isSaintly ∈ gl_ := wg_ 841 (by decide +kernel) rfl
set_option maxRecDepth 100000 in
theorem wi_X10_isSetInSpan : Cond.instanceMethod yX10_isSetInSpan ∈ gl_ := wg_ 758 (by decide +kernel) rfl
set_option maxRecDepth 100000 in
theorem wi_X10_land : Cond.instanceMethod yX10_land ∈ gl_ := wg_ 633 (by decide +kernel) rfl
set_option maxRecDepth 100000 in
theorem wi_X10_leaves : Cond.instanceMethod yX10_leaves ∈ gl_ := wg_ 984 (by decide +kernel) rfl
set_option maxRecDepth 100000 in
theorem wi_X10_luck : Cond.instanceMethod yX10_luck ∈ gl_ := wg_ 1165 (by decide +kernel) rfl
set_option maxRecDepth 100000 in
theorem wi_X10_many : Cond.instanceMethod yX10_many ∈ gl_ := wg_ 768 (by decide +kernel) rfl
set_option maxRecDepth 100000 in
theorem wi_X10_march : Cond.instanceMethod yX10_march ∈ gl_ := wg_ 1019 (by decide +kernel) rfl
set_option maxRecDepth 100000 in
theorem wi_X10_may : Cond.instanceMethod yX10_may ∈ gl_ := wg_ 733 (by decide +kernel) rfl
set_option maxRecDepth 100000 in
theorem wi_X10_meets : Cond.instanceMethod yX10_meets ∈ gl_ := wg_ 796 (by decide +kernel) rfl
set_option maxRecDepth 100000 in
theorem wi_X10_month : Cond.instanceMethod yX10_month ∈ gl_ := wg_ 641 (by decide +kernel) rfl
set_option maxRecDepth 100000 in
theorem wi_X10_most : Cond.instanceMethod yX10_most ∈ gl_ := wg_ 1000 (by decide +kernel) rfl
set_option maxRecDepth 100000 in
theorem wi_X10_next : Cond.instanceMethod yX10_next ∈ gl_ := wg_ 753 (by decide +kernel) rfl
set_option maxRecDepth 100000 in
theorem wi_X10_older : Cond.instanceMethod yX10_older ∈ gl_ := wg_ 901 (by decide +kernel) rfl
set_option maxRecDepth 100000 in
theorem wi_X10_oldest : Cond.instanceMethod yX10_oldest ∈ gl_ := wg_ 876 (by decide +kernel) rfl
set_option maxRecDepth 100000 in
theorem wi_X10_overlap : Cond.instanceMethod yX10_overlap ∈ gl_ := wg_ 996 (by decide +kernel) rfl
set_option maxRecDepth 100000 in
theorem wi_X10_paste : Cond.instanceMethod yX10_paste ∈ gl_ := wg_ 1217 (by decide +kernel) rfl
set_option maxRecDepth 100000 in
theorem wi_X10_period : Cond.instanceMethod yX10_period ∈ gl_ := wg_ 812 (by decide +kernel) rfl
set_option maxRecDepth 100000 in
theorem wi_X10_place : Cond.instanceMethod yX10_place ∈ gl_ := wg_ 1031 (by decide +kernel) rfl
set_option maxRecDepth 100000 in
theorem wi_X10_readOrders : Cond.instanceMethod yX10_readOrders ∈ gl_ := wg_ 881 (by decide +kernel) rfl
set_option maxRecDepth 100000 in
theorem wi_X10_readSights : Cond.instanceMethod yX10_readSights ∈ gl_ := wg_ 935 (by decide +kernel) rfl
set_option maxRecDepth 100000 in
theorem wi_X10_row : Cond.instanceMethod yX10_row ∈ gl_ := wg_ 1198 (by decide +kernel) rfl
set_option maxRecDepth 100000 in
theorem wi_X10_saints : Cond.instanceMethod yX10_saints ∈ gl_ := wg_ 836 (by decide +kernel) rfl
set_option maxRecDepth 100000 in
theorem wi_X10_share : Cond.instanceMethod yX10_share ∈ gl_ := wg_ 789 (by decide +kernel) rfl
set_option maxRecDepth 100000 in
theorem wi_X10_slotsWithRow : Cond.instanceMethod yX10_slotsWithRow ∈ gl_ := wg_ 1178 (by decide +kernel) rfl
set_option maxRecDepth 100000 in
theorem wi_X10_sure : Cond.instanceMethod yX10_sure ∈ gl_ := wg_ 956 (by decide +kernel) rfl
set_option maxRecDepth 100000 in
theorem wi_X10_takes : Cond.instanceMethod yX10_takes ∈ gl_ := wg_ 1087 (by decide +kernel) rfl
set_option maxRecDepth 100000 in
theorem wi_X10_told : Cond.instanceMethod yX10_told ∈ gl_ := wg_ 681 (by decide +kernel) rfl
set_option maxRecDepth 100000 in
theorem wi_X10_truce : Cond.instanceMethod yX10_truce ∈ gl_ := wg_ 665 (by decide +kernel) rfl
set_option maxRecDepth 100000 in
theorem wi_X10_undo : Cond.instanceMethod yX10_undo ∈ gl_ := wg_ 1137 (by decide +kernel) rfl
set_option maxRecDepth 100000 in
theorem wi_X10_waiting : Cond.instanceMethod yX10_waiting ∈ gl_ := wg_ 785 (by decide +kernel) rfl
set_option maxRecDepth 100000 in
theorem wi_X10_waits : Cond.instanceMethod yX10_waits ∈ gl_ := wg_ 777 (by decide +kernel) rfl
set_option maxRecDepth 100000 in
theorem wi_X10_war : Cond.instanceMethod yX10_war ∈ gl_ := wg_ 483 (by decide +kernel) rfl
set_option maxRecDepth 100000 in
theorem wi_X10_who : Cond.instanceMethod yX10_who ∈ gl_ := wg_ 745 (by decide +kernel) rfl
set_option maxRecDepth 100000 in
theorem wi_X10_why : Cond.instanceMethod yX10_why ∈ gl_ := wg_ 737 (by decide +kernel) rfl
set_option maxRecDepth 100000 in
theorem wi_X10_write : Cond.instanceMethod yX10_write ∈ gl_ := wg_ 1209 (by decide +kernel) rfl
set_option maxRecDepth 100000 in
theorem wi_X10_years : Cond.instanceMethod yX10_years ∈ gl_ := wg_ 828 (by decide +kernel) rfl
set_option maxRecDepth 100000 in
theorem wi_X11_advance : Cond.instanceMethod yX11_advance ∈ gl_ := wg_ 1378 (by decide +kernel) rfl
set_option maxRecDepth 100000 in
theorem wi_X11_age : Cond.instanceMethod yX11_age ∈ gl_ := wg_ 1791 (by decide +kernel) rfl
set_option maxRecDepth 100000 in
theorem wi_X11_ageOf : Cond.instanceMethod yX11_ageOf ∈ gl_ := wg_ 1796 (by decide +kernel) rfl
set_option maxRecDepth 100000 in
theorem wi_X11_alike : Cond.instanceMethod yX11_alike ∈ gl_ := wg_ 1646 (by decide +kernel) rfl
set_option maxRecDepth 100000 in
theorem wi_X11_allLands : Cond.instanceMethod yX11_allLands ∈ gl_ := wg_ 1592 (by decide +kernel) rfl
set_option maxRecDepth 100000 in
theorem wi_X11_alone : Cond.instanceMethod yX11_alone ∈ gl_ := wg_ 1823 (by decide +kernel) rfl
set_option maxRecDepth 100000 in
theorem wi_X11_aloneOf : Cond.instanceMethod yX11_aloneOf ∈ gl_ := wg_ 1828 (by decide +kernel) rfl
set_option maxRecDepth 100000 in
theorem wi_X11_apart : Cond.instanceMethod yX11_apart ∈ gl_ := wg_ 1721 (by decide +kernel) rfl
set_option maxRecDepth 100000 in
theorem wi_X11_areSaints : Cond.instanceMethod yX11_areSaints ∈ gl_ := wg_ 1667 (by decide +kernel) rfl
set_option maxRecDepth 100000 in
theorem wi_X11_areTwo : Cond.instanceMethod yX11_areTwo ∈ gl_ := wg_ 1634 (by decide +kernel) rfl
set_option maxRecDepth 100000 in
theorem wi_X11_ask : Cond.instanceMethod yX11_ask ∈ gl_ := wg_ 1759 (by decide +kernel) rfl
set_option maxRecDepth 100000 in
theorem wi_X11_askOf : Cond.instanceMethod yX11_askOf ∈ gl_ := wg_ 1764 (by decide +kernel) rfl
set_option maxRecDepth 100000 in
theorem wi_X11_asksOrders : Cond.instanceMethod yX11_asksOrders ∈ gl_ := wg_ 1699 (by decide +kernel) rfl
set_option maxRecDepth 100000 in
theorem wi_X11_asksSeen : Cond.instanceMethod yX11_asksSeen ∈ gl_ := wg_ 1735 (by decide +kernel) rfl
set_option maxRecDepth 100000 in
theorem wi_X11_back : Cond.instanceMethod yX11_back ∈ gl_ := wg_ 1357 (by decide +kernel) rfl
set_option maxRecDepth 100000 in
theorem wi_X11_begin : Cond.instanceMethod yX11_begin ∈ gl_ := wg_ 1831 (by decide +kernel) rfl
set_option maxRecDepth 100000 in
theorem wi_X11_beginOf : Cond.instanceMethod yX11_beginOf ∈ gl_ := wg_ 1841 (by decide +kernel) rfl
set_option maxRecDepth 100000 in
theorem wi_X11_begins : Cond.instanceMethod yX11_begins ∈ gl_ := wg_ 1844 (by decide +kernel) rfl
set_option maxRecDepth 100000 in
theorem wi_X11_bridge : Cond.instanceMethod yX11_bridge ∈ gl_ := wg_ 1682 (by decide +kernel) rfl
set_option maxRecDepth 100000 in
theorem wi_X11_bridged : Cond.instanceMethod yX11_bridged ∈ gl_ := wg_ 1690 (by decide +kernel) rfl
set_option maxRecDepth 100000 in
theorem wi_X11_clash : Cond.instanceMethod yX11_clash ∈ gl_ := wg_ 1807 (by decide +kernel) rfl
set_option maxRecDepth 100000 in
theorem wi_X11_comes : Cond.instanceMethod yX11_comes ∈ gl_ := wg_ 1658 (by decide +kernel) rfl
set_option maxRecDepth 100000 in
theorem wi_X11_copy : Cond.instanceMethod yX11_copy ∈ gl_ := wg_ 1862 (by decide +kernel) rfl
set_option maxRecDepth 100000 in
theorem wi_X11_count : Cond.instanceMethod yX11_count ∈ gl_ := wg_ 1922 (by decide +kernel) rfl
set_option maxRecDepth 100000 in
theorem wi_X11_date : Cond.instanceMethod yX11_date ∈ gl_ := wg_ 1510 (by decide +kernel) rfl
set_option maxRecDepth 100000 in
theorem wi_X11_dateOf : Cond.instanceMethod yX11_dateOf ∈ gl_ := wg_ 1540 (by decide +kernel) rfl
set_option maxRecDepth 100000 in
theorem wi_X11_day : Cond.instanceMethod yX11_day ∈ gl_ := wg_ 1543 (by decide +kernel) rfl
set_option maxRecDepth 100000 in
theorem wi_X11_dayAt : Cond.instanceMethod yX11_dayAt ∈ gl_ := wg_ 1714 (by decide +kernel) rfl
set_option maxRecDepth 100000 in
theorem wi_X11_dayBy : Cond.instanceMethod yX11_dayBy ∈ gl_ := wg_ 1552 (by decide +kernel) rfl
set_option maxRecDepth 100000 in
theorem wi_X11_drawn : Cond.instanceMethod yX11_drawn ∈ gl_ := wg_ 1901 (by decide +kernel) rfl
set_option maxRecDepth 100000 in
theorem wi_X11_end : Cond.instanceMethod yX11_end ∈ gl_ := wg_ 1365 (by decide +kernel) rfl
set_option maxRecDepth 100000 in
theorem wi_X11_ends : Cond.instanceMethod yX11_ends ∈ gl_ := wg_ 1893 (by decide +kernel) rfl
set_option maxRecDepth 100000 in
theorem wi_X11_errs : Cond.instanceMethod yX11_errs ∈ gl_ := wg_ 1415 (by decide +kernel) rfl
set_option maxRecDepth 100000 in
theorem wi_X11_fault : Cond.instanceMethod yX11_fault ∈ gl_ := wg_ 1369 (by decide +kernel) rfl
set_option maxRecDepth 100000 in
theorem wi_X11_feast : Cond.instanceMethod yX11_feast ∈ gl_ := wg_ 1493 (by decide +kernel) rfl
set_option maxRecDepth 100000 in
theorem wi_X11_feed : Cond.instanceMethod yX11_feed ∈ gl_ := wg_ 1361 (by decide +kernel) rfl
set_option maxRecDepth 100000 in
theorem wi_X11_findBridge : Cond.instanceMethod yX11_findBridge ∈ gl_ := wg_ 1687 (by decide +kernel) rfl
set_option maxRecDepth 100000 in
theorem wi_X11_findClash : Cond.instanceMethod yX11_findClash ∈ gl_ := wg_ 1816 (by decide +kernel) rfl
set_option maxRecDepth 100000 in
theorem wi_X11_findSaints : Cond.instanceMethod yX11_findSaints ∈ gl_ := wg_ 1673 (by decide +kernel) rfl
set_option maxRecDepth 100000 in
theorem wi_X11_findWait : Cond.instanceMethod yX11_findWait ∈ gl_ := wg_ 1615 (by decide +kernel) rfl
set_option maxRecDepth 100000 in
theorem wi_X11_fit : Cond.instanceMethod yX11_fit ∈ gl_ := wg_ 1751 (by decide +kernel) rfl
set_option maxRecDepth 100000 in
theorem wi_X11_fits : Cond.instanceMethod yX11_fits ∈ gl_ := wg_ 1730 (by decide +kernel) rfl
set_option maxRecDepth 100000 in
theorem wi_X11_fitsOf : Cond.instanceMethod yX11_fitsOf ∈ gl_ := wg_ 1740 (by decide +kernel) rfl
set_option maxRecDepth 100000 in
theorem wi_X11_found : Cond.instanceMethod yX11_found ∈ gl_ := wg_ 1881 (by decide +kernel) rfl
set_option maxRecDepth 100000 in
theorem wi_X11_founded : Cond.instanceMethod yX11_founded ∈ gl_ := wg_ 1677 (by decide +kernel) rfl
set_option maxRecDepth 100000 in
theorem wi_X11_freshLand : Cond.instanceMethod yX11_freshLand ∈ gl_ := wg_ 1455 (by decide +kernel) rfl
set_option maxRecDepth 100000 in
theorem wi_X11_gains : Cond.instanceMethod yX11_gains ∈ gl_ := wg_ 1799 (by decide +kernel) rfl
set_option maxRecDepth 100000 in
theorem wi_X11_game : Cond.instanceMethod yX11_game ∈ gl_ := wg_ 1848 (by decide +kernel) rfl
set_option maxRecDepth 100000 in
theorem wi_X11_goRain : Cond.instanceMethod yX11_goRain ∈ gl_ := wg_ 1911 (by decide +kernel) rfl
set_option maxRecDepth 100000 in
theorem wi_X11_good : Cond.instanceMethod yX11_good ∈ gl_ := wg_ 1392 (by decide +kernel) rfl
set_option maxRecDepth 100000 in
theorem wi_X11_grant : Cond.instanceMethod yX11_grant ∈ gl_ := wg_ 1889 (by decide +kernel) rfl
set_option maxRecDepth 100000 in
theorem wi_X11_holdOn : Cond.instanceMethod yX11_holdOn ∈ gl_ := wg_ 1780 (by decide +kernel) rfl
set_option maxRecDepth 100000 in
theorem wi_X11_holds : Cond.instanceMethod yX11_holds ∈ gl_ := wg_ 1775 (by decide +kernel) rfl
set_option maxRecDepth 100000 in
theorem wi_X11_idle : Cond.instanceMethod yX11_idle ∈ gl_ := wg_ 1726 (by decide +kernel) rfl
set_option maxRecDepth 100000 in
theorem wi_X11_image : Cond.instanceMethod yX11_image ∈ gl_ := wg_ 1349 (by decide +kernel) rfl
set_option maxRecDepth 100000 in
theorem wi_X11_init : Cond.instanceMethod yX11_init ∈ gl_ := wg_ 1228 (by decide +kernel) rfl
set_option maxRecDepth 100000 in
theorem wi_X11_intAt : Cond.instanceMethod yX11_intAt ∈ gl_ := wg_ 1710 (by decide +kernel) rfl
set_option maxRecDepth 100000 in
theorem wi_X11_is : Cond.instanceMethod yX11_is ∈ gl_ := wg_ 1409 (by decide +kernel) rfl
set_option maxRecDepth 100000 in
theorem wi_X11_isBegin : Cond.instanceMethod yX11_isBegin ∈ gl_ := wg_ 1836 (by decide +kernel) rfl
set_option maxRecDepth 100000 in
theorem wi_X11_isClash : Cond.instanceMethod yX11_isClash ∈ gl_ := wg_ 1812 (by decide +kernel) rfl
set_option maxRecDepth 100000 in
theorem wi_X11_isCounted : Cond.instanceMethod yX11_isCounted ∈ gl_ := wg_ 1651 (by decide +kernel) rfl
set_option maxRecDepth 100000 in
theorem wi_X11_isDate : Cond.instanceMethod yX11_isDate ∈ gl_ := wg_ 1548 (by decide +kernel) rfl
set_option maxRecDepth 100000 in
theorem wi_X11_isGame : Cond.instanceMethod yX11_isGame ∈ gl_ := wg_ 1853 (by decide +kernel) rfl
set_option maxRecDepth 100000 in
theorem wi_X11_isLand : Cond.instanceMethod yX11_isLand ∈ gl_ := wg_ 1469 (by decide +kernel) rfl
set_option maxRecDepth 100000 in
theorem wi_X11_isMonth : Cond.instanceMethod yX11_isMonth ∈ gl_ := wg_ 1482 (by decide +kernel) rfl
set_option maxRecDepth 100000 in
theorem wi_X11_isSeen : Cond.instanceMethod yX11_isSeen ∈ gl_ := wg_ 1744 (by decide +kernel) rfl
set_option maxRecDepth 100000 in
theorem wi_X11_isSet : Cond.instanceMethod yX11_isSet ∈ gl_ := wg_ 1588 (by decide +kernel) rfl
set_option maxRecDepth 100000 in
theorem wi_X11_isWar : Cond.instanceMethod yX11_isWar ∈ gl_ := wg_ 1576 (by decide +kernel) rfl
set_option maxRecDepth 100000 in
theorem wi_X11_isWeekday : Cond.instanceMethod yX11_isWeekday ∈ gl_ := wg_ 1638 (by decide +kernel) rfl
set_option maxRecDepth 100000 in
theorem wi_X11_keepChange : Cond.instanceMethod yX11_keepChange ∈ gl_ := wg_ 1886 (by decide +kernel) rfl
set_option maxRecDepth 100000 in
theorem wi_X11_land : Cond.instanceMethod yX11_land ∈ gl_ := wg_ 1464 (by decide +kernel) rfl
set_option maxRecDepth 100000 in
theorem wi_X11_lay : Cond.instanceMethod yX11_lay ∈ gl_ := wg_ 1518 (by decide +kernel) rfl
set_option maxRecDepth 100000 in
theorem wi_X11_layDates : Cond.instanceMethod yX11_layDates ∈ gl_ := wg_ 1522 (by decide +kernel) rfl
set_option maxRecDepth 100000 in
theorem wi_X11_layWhy : Cond.instanceMethod yX11_layWhy ∈ gl_ := wg_ 1529 (by decide +kernel) rfl
set_option maxRecDepth 100000 in
theorem wi_X11_leaves : Cond.instanceMethod yX11_leaves ∈ gl_ := wg_ 1771 (by decide +kernel) rfl
set_option maxRecDepth 100000 in
theorem wi_X11_lengthOf : Cond.instanceMethod yX11_lengthOf ∈ gl_ := wg_ 1490 (by decide +kernel) rfl
set_option maxRecDepth 100000 in
theorem wi_X11_luck : Cond.instanceMethod yX11_luck ∈ gl_ := wg_ 1918 (by decide +kernel) rfl
set_option maxRecDepth 100000 in
theorem wi_X11_many : Cond.instanceMethod yX11_many ∈ gl_ := wg_ 1599 (by decide +kernel) rfl
set_option maxRecDepth 100000 in
theorem wi_X11_manyOf : Cond.instanceMethod yX11_manyOf ∈ gl_ := wg_ 1607 (by decide +kernel) rfl
set_option maxRecDepth 100000 in
theorem wi_X11_march : Cond.instanceMethod yX11_march ∈ gl_ := wg_ 1803 (by decide +kernel) rfl
set_option maxRecDepth 100000 in
theorem wi_X11_may : Cond.instanceMethod yX11_may ∈ gl_ := wg_ 1559 (by decide +kernel) rfl
set_option maxRecDepth 100000 in
theorem wi_X11_mayAll : Cond.instanceMethod yX11_mayAll ∈ gl_ := wg_ 1596 (by decide +kernel) rfl
set_option maxRecDepth 100000 in
theorem wi_X11_mayOn : Cond.instanceMethod yX11_mayOn ∈ gl_ := wg_ 1564 (by decide +kernel) rfl
set_option maxRecDepth 100000 in
theorem wi_X11_meets : Cond.instanceMethod yX11_meets ∈ gl_ := wg_ 1629 (by decide +kernel) rfl
set_option maxRecDepth 100000 in
theorem wi_X11_month : Cond.instanceMethod yX11_month ∈ gl_ := wg_ 1477 (by decide +kernel) rfl
set_option maxRecDepth 100000 in
theorem wi_X11_most : Cond.instanceMethod yX11_most ∈ gl_ := wg_ 1787 (by decide +kernel) rfl
set_option maxRecDepth 100000 in
theorem wi_X11_needs : Cond.instanceMethod yX11_needs ∈ gl_ := wg_ 1401 (by decide +kernel) rfl
set_option maxRecDepth 100000 in
theorem wi_X11_next : Cond.instanceMethod yX11_next ∈ gl_ := wg_ 1583 (by decide +kernel) rfl
set_option maxRecDepth 100000 in
theorem wi_X11_number : Cond.instanceMethod yX11_number ∈ gl_ := wg_ 1424 (by decide +kernel) rfl
set_option maxRecDepth 100000 in
theorem wi_X11_numberAt : Cond.instanceMethod yX11_numberAt ∈ gl_ := wg_ 1706 (by decide +kernel) rfl
set_option maxRecDepth 100000 in
theorem wi_X11_of : Cond.instanceMethod yX11_of ∈ gl_ := wg_ 1474 (by decide +kernel) rfl
set_option maxRecDepth 100000 in
theorem wi_X11_ofFeast : Cond.instanceMethod yX11_ofFeast ∈ gl_ := wg_ 1499 (by decide +kernel) rfl
set_option maxRecDepth 100000 in
theorem wi_X11_ofTruce : Cond.instanceMethod yX11_ofTruce ∈ gl_ := wg_ 1507 (by decide +kernel) rfl
set_option maxRecDepth 100000 in
theorem wi_X11_older : Cond.instanceMethod yX11_older ∈ gl_ := wg_ 1717 (by decide +kernel) rfl
set_option maxRecDepth 100000 in
theorem wi_X11_oldest : Cond.instanceMethod yX11_oldest ∈ gl_ := wg_ 1694 (by decide +kernel) rfl
set_option maxRecDepth 100000 in
theorem wi_X11_overlap : Cond.instanceMethod yX11_overlap ∈ gl_ := wg_ 1783 (by decide +kernel) rfl
set_option maxRecDepth 100000 in
theorem wi_X11_paste : Cond.instanceMethod yX11_paste ∈ gl_ := wg_ 1937 (by decide +kernel) rfl
set_option maxRecDepth 100000 in
theorem wi_X11_period : Cond.instanceMethod yX11_period ∈ gl_ := wg_ 1642 (by decide +kernel) rfl
set_option maxRecDepth 100000 in
theorem wi_X11_place : Cond.instanceMethod yX11_place ∈ gl_ := wg_ 1819 (by decide +kernel) rfl
set_option maxRecDepth 100000 in
theorem wi_X11_play : Cond.instanceMethod yX11_play ∈ gl_ := wg_ 1858 (by decide +kernel) rfl
set_option maxRecDepth 100000 in
theorem wi_X11_readFeast : Cond.instanceMethod yX11_readFeast ∈ gl_ := wg_ 1451 (by decide +kernel) rfl
set_option maxRecDepth 100000 in
theorem wi_X11_readLand : Cond.instanceMethod yX11_readLand ∈ gl_ := wg_ 1435 (by decide +kernel) rfl
set_option maxRecDepth 100000 in
theorem wi_X11_readLine : Cond.instanceMethod yX11_readLine ∈ gl_ := wg_ 1396 (by decide +kernel) rfl
set_option maxRecDepth 100000 in
theorem wi_X11_readMonths : Cond.instanceMethod yX11_readMonths ∈ gl_ := wg_ 1443 (by decide +kernel) rfl
set_option maxRecDepth 100000 in
theorem wi_X11_readNext : Cond.instanceMethod yX11_readNext ∈ gl_ := wg_ 1428 (by decide +kernel) rfl
set_option maxRecDepth 100000 in
theorem wi_X11_readTruce : Cond.instanceMethod yX11_readTruce ∈ gl_ := wg_ 1460 (by decide +kernel) rfl
set_option maxRecDepth 100000 in
theorem wi_X11_row : Cond.instanceMethod yX11_row ∈ gl_ := wg_ 1926 (by decide +kernel) rfl
set_option maxRecDepth 100000 in
theorem wi_X11_saints : Cond.instanceMethod yX11_saints ∈ gl_ := wg_ 1662 (by decide +kernel) rfl
set_option maxRecDepth 100000 in
theorem wi_X11_see : Cond.instanceMethod yX11_see ∈ gl_ := wg_ 1382 (by decide +kernel) rfl
set_option maxRecDepth 100000 in
theorem wi_X11_seen : Cond.instanceMethod yX11_seen ∈ gl_ := wg_ 1748 (by decide +kernel) rfl
set_option maxRecDepth 100000 in
theorem wi_X11_share : Cond.instanceMethod yX11_share ∈ gl_ := wg_ 1622 (by decide +kernel) rfl
set_option maxRecDepth 100000 in
theorem wi_X11_sure : Cond.instanceMethod yX11_sure ∈ gl_ := wg_ 1755 (by decide +kernel) rfl
set_option maxRecDepth 100000 in
theorem wi_X11_takes : Cond.instanceMethod yX11_takes ∈ gl_ := wg_ 1405 (by decide +kernel) rfl
set_option maxRecDepth 100000 in
theorem wi_X11_takes_ : Cond.instanceMethod yX11_takes_ ∈ gl_ := wg_ 1877 (by decide +kernel) rfl
set_option maxRecDepth 100000 in
theorem wi_X11_told : Cond.instanceMethod yX11_told ∈ gl_ := wg_ 1420 (by decide +kernel) rfl
set_option maxRecDepth 100000 in
theorem wi_X11_truce : Cond.instanceMethod yX11_truce ∈ gl_ := wg_ 1502 (by decide +kernel) rfl
set_option maxRecDepth 100000 in
theorem wi_X11_undo : Cond.instanceMethod yX11_undo ∈ gl_ := wg_ 1897 (by decide +kernel) rfl
set_option maxRecDepth 100000 in
theorem wi_X11_waiting : Cond.instanceMethod yX11_waiting ∈ gl_ := wg_ 1618 (by decide +kernel) rfl
set_option maxRecDepth 100000 in
theorem wi_X11_waits : Cond.instanceMethod yX11_waits ∈ gl_ := wg_ 1610 (by decide +kernel) rfl
set_option maxRecDepth 100000 in
theorem wi_X11_war : Cond.instanceMethod yX11_war ∈ gl_ := wg_ 1373 (by decide +kernel) rfl
set_option maxRecDepth 100000 in
theorem wi_X11_weekday : Cond.instanceMethod yX11_weekday ∈ gl_ := wg_ 1533 (by decide +kernel) rfl
set_option maxRecDepth 100000 in
theorem wi_X11_who : Cond.instanceMethod yX11_who ∈ gl_ := wg_ 1571 (by decide +kernel) rfl
set_option maxRecDepth 100000 in
theorem wi_X11_whoOn : Cond.instanceMethod yX11_whoOn ∈ gl_ := wg_ 1580 (by decide +kernel) rfl
set_option maxRecDepth 100000 in
theorem wi_X11_why : Cond.instanceMethod yX11_why ∈ gl_ := wg_ 1567 (by decide +kernel) rfl
set_option maxRecDepth 100000 in
theorem wi_X11_worstOf : Cond.instanceMethod yX11_worstOf ∈ gl_ := wg_ 1768 (by decide +kernel) rfl
set_option maxRecDepth 100000 in
theorem wi_X11_write : Cond.instanceMethod yX11_write ∈ gl_ := wg_ 1930 (by decide +kernel) rfl
set_option maxRecDepth 100000 in
theorem wi_X11_yearLength : Cond.instanceMethod yX11_yearLength ∈ gl_ := wg_ 1556 (by decide +kernel) rfl
set_option maxRecDepth 100000 in
theorem wi_X11_years : Cond.instanceMethod yX11_years ∈ gl_ := wg_ 1654 (by decide +kernel) rfl
set_option maxRecDepth 100000 in
theorem wi_X1_appendMonth : Cond.instanceMethod yX1_appendMonth ∈ gl_ := wg_ 595 (by decide +kernel) rfl
set_option maxRecDepth 100000 in
theorem wi_X1_clear : Cond.instanceMethod yX1_clear ∈ gl_ := wg_ 583 (by decide +kernel) rfl
set_option maxRecDepth 100000 in
theorem wi_X1_copyOf : Cond.instanceMethod yX1_copyOf ∈ gl_ := wg_ 1189 (by decide +kernel) rfl
set_option maxRecDepth 100000 in
theorem wi_X1_dayOn : Cond.instanceMethod yX1_dayOn ∈ gl_ := wg_ 704 (by decide +kernel) rfl
set_option maxRecDepth 100000 in
theorem wi_X1_hasWeekday : Cond.instanceMethod yX1_hasWeekday ∈ gl_ := wg_ 808 (by decide +kernel) rfl
set_option maxRecDepth 100000 in
theorem wi_X1_init : Cond.instanceMethod yX1_init ∈ gl_ := wg_ 165 (by decide +kernel) rfl
set_option maxRecDepth 100000 in
theorem wi_X1_isLeapYear : Cond.instanceMethod yX1_isLeapYear ∈ gl_ := wg_ 657 (by decide +kernel) rfl
set_option maxRecDepth 100000 in
theorem wi_X1_leapCycle : Cond.instanceMethod yX1_leapCycle ∈ gl_ := wg_ 816 (by decide +kernel) rfl
set_option maxRecDepth 100000 in
theorem wi_X1_lengthIn : Cond.instanceMethod yX1_lengthIn ∈ gl_ := wg_ 653 (by decide +kernel) rfl
set_option maxRecDepth 100000 in
theorem wi_X2_datedAtRest : Cond.instanceMethod yX2_datedAtRest ∈ gl_ := wg_ 925 (by decide +kernel) rfl
set_option maxRecDepth 100000 in
theorem wi_X2_daysApart : Cond.instanceMethod yX2_daysApart ∈ gl_ := wg_ 913 (by decide +kernel) rfl
set_option maxRecDepth 100000 in
theorem wi_X2_earlierThan : Cond.instanceMethod yX2_earlierThan ∈ gl_ := wg_ 905 (by decide +kernel) rfl
set_option maxRecDepth 100000 in
theorem wi_X2_init : Cond.instanceMethod yX2_init ∈ gl_ := wg_ 336 (by decide +kernel) rfl
set_option maxRecDepth 100000 in
theorem wi_X2_placeOfOldest : Cond.instanceMethod yX2_placeOfOldest ∈ gl_ := wg_ 897 (by decide +kernel) rfl
set_option maxRecDepth 100000 in
theorem wi_X2_read : Cond.instanceMethod yX2_read ∈ gl_ := wg_ 887 (by decide +kernel) rfl
set_option maxRecDepth 100000 in
theorem wi_X3_init : Cond.instanceMethod yX3_init ∈ gl_ := wg_ 125 (by decide +kernel) rfl
set_option maxRecDepth 100000 in
theorem wi_X3_isWord : Cond.instanceMethod yX3_isWord ∈ gl_ := wg_ 505 (by decide +kernel) rfl
set_option maxRecDepth 100000 in
theorem wi_X3_needNumber : Cond.instanceMethod yX3_needNumber ∈ gl_ := wg_ 570 (by decide +kernel) rfl
set_option maxRecDepth 100000 in
theorem wi_X3_needWord : Cond.instanceMethod yX3_needWord ∈ gl_ := wg_ 562 (by decide +kernel) rfl
set_option maxRecDepth 100000 in
theorem wi_X3_read : Cond.instanceMethod yX3_read ∈ gl_ := wg_ 487 (by decide +kernel) rfl
set_option maxRecDepth 100000 in
theorem wi_X3_readFeast : Cond.instanceMethod yX3_readFeast ∈ gl_ := wg_ 603 (by decide +kernel) rfl
set_option maxRecDepth 100000 in
theorem wi_X3_readLand : Cond.instanceMethod yX3_readLand ∈ gl_ := wg_ 579 (by decide +kernel) rfl
set_option maxRecDepth 100000 in
theorem wi_X3_readLine : Cond.instanceMethod yX3_readLine ∈ gl_ := wg_ 500 (by decide +kernel) rfl
set_option maxRecDepth 100000 in
theorem wi_X3_readMonths : Cond.instanceMethod yX3_readMonths ∈ gl_ := wg_ 591 (by decide +kernel) rfl
set_option maxRecDepth 100000 in
theorem wi_X3_readRain : Cond.instanceMethod yX3_readRain ∈ gl_ := wg_ 557 (by decide +kernel) rfl
set_option maxRecDepth 100000 in
theorem wi_X3_readTruce : Cond.instanceMethod yX3_readTruce ∈ gl_ := wg_ 616 (by decide +kernel) rfl
set_option maxRecDepth 100000 in
theorem wi_X3_refuse : Cond.instanceMethod yX3_refuse ∈ gl_ := wg_ 566 (by decide +kernel) rfl
set_option maxRecDepth 100000 in
theorem wi_X3_startLine : Cond.instanceMethod yX3_startLine ∈ gl_ := wg_ 575 (by decide +kernel) rfl
set_option maxRecDepth 100000 in
theorem wi_X3_step : Cond.instanceMethod yX3_step ∈ gl_ := wg_ 495 (by decide +kernel) rfl
set_option maxRecDepth 100000 in
theorem wi_X4_areSmall : Cond.instanceMethod yX4_areSmall ∈ gl_ := wg_ 891 (by decide +kernel) rfl
set_option maxRecDepth 100000 in
theorem wi_X4_cut : Cond.instanceMethod yX4_cut ∈ gl_ := wg_ 1213 (by decide +kernel) rfl
set_option maxRecDepth 100000 in
theorem wi_X4_hasStretch : Cond.instanceMethod yX4_hasStretch ∈ gl_ := wg_ 1221 (by decide +kernel) rfl
set_option maxRecDepth 100000 in
theorem wi_X4_init : Cond.instanceMethod yX4_init ∈ gl_ := wg_ 402 (by decide +kernel) rfl
set_option maxRecDepth 100000 in
theorem wi_X4_renew : Cond.instanceMethod yX4_renew ∈ gl_ := wg_ 1202 (by decide +kernel) rfl
set_option maxRecDepth 100000 in
theorem wi_X5_cover : Cond.instanceMethod yX5_cover ∈ gl_ := wg_ 855 (by decide +kernel) rfl
set_option maxRecDepth 100000 in
theorem wi_X5_init : Cond.instanceMethod yX5_init ∈ gl_ := wg_ 318 (by decide +kernel) rfl
set_option maxRecDepth 100000 in
theorem wi_X5_openDays : Cond.instanceMethod yX5_openDays ∈ gl_ := wg_ 850 (by decide +kernel) rfl
set_option maxRecDepth 100000 in
theorem wi_X5_seek : Cond.instanceMethod yX5_seek ∈ gl_ := wg_ 844 (by decide +kernel) rfl
set_option maxRecDepth 100000 in
theorem wi_X6_fightersOnAll : Cond.instanceMethod yX6_fightersOnAll ∈ gl_ := wg_ 960 (by decide +kernel) rfl
set_option maxRecDepth 100000 in
theorem wi_X6_fightersOnSome : Cond.instanceMethod yX6_fightersOnSome ∈ gl_ := wg_ 964 (by decide +kernel) rfl
set_option maxRecDepth 100000 in
theorem wi_X6_fitsAll : Cond.instanceMethod yX6_fitsAll ∈ gl_ := wg_ 947 (by decide +kernel) rfl
set_option maxRecDepth 100000 in
theorem wi_X6_gather : Cond.instanceMethod yX6_gather ∈ gl_ := wg_ 943 (by decide +kernel) rfl
set_option maxRecDepth 100000 in
theorem wi_X6_init : Cond.instanceMethod yX6_init ∈ gl_ := wg_ 353 (by decide +kernel) rfl
set_option maxRecDepth 100000 in
theorem wi_X6_isTold : Cond.instanceMethod yX6_isTold ∈ gl_ := wg_ 938 (by decide +kernel) rfl
set_option maxRecDepth 100000 in
theorem wi_X6_seekQuestion : Cond.instanceMethod yX6_seekQuestion ∈ gl_ := wg_ 972 (by decide +kernel) rfl
set_option maxRecDepth 100000 in
theorem wi_X6_tryQuestion : Cond.instanceMethod yX6_tryQuestion ∈ gl_ := wg_ 976 (by decide +kernel) rfl
set_option maxRecDepth 100000 in
theorem wi_X7_bestTake : Cond.instanceMethod yX7_bestTake ∈ gl_ := wg_ 1075 (by decide +kernel) rfl
set_option maxRecDepth 100000 in
theorem wi_X7_init : Cond.instanceMethod yX7_init ∈ gl_ := wg_ 379 (by decide +kernel) rfl
set_option maxRecDepth 100000 in
theorem wi_X7_listTurns : Cond.instanceMethod yX7_listTurns ∈ gl_ := wg_ 1070 (by decide +kernel) rfl
set_option maxRecDepth 100000 in
theorem wi_X7_play : Cond.instanceMethod yX7_play ∈ gl_ := wg_ 1066 (by decide +kernel) rfl
set_option maxRecDepth 100000 in
theorem wi_X7_winnerOf : Cond.instanceMethod yX7_winnerOf ∈ gl_ := wg_ 1083 (by decide +kernel) rfl
set_option maxRecDepth 100000 in
theorem wi_X7_worth : Cond.instanceMethod yX7_worth ∈ gl_ := wg_ 1079 (by decide +kernel) rfl
set_option maxRecDepth 100000 in
theorem wi_X8_append : Cond.instanceMethod yX8_append ∈ gl_ := wg_ 475 (by decide +kernel) rfl
set_option maxRecDepth 100000 in
theorem wi_X8_init : Cond.instanceMethod yX8_init ∈ gl_ := wg_ 108 (by decide +kernel) rfl
set_option maxRecDepth 100000 in
theorem wi_X9_appendTruce : Cond.instanceMethod yX9_appendTruce ∈ gl_ := wg_ 621 (by decide +kernel) rfl
set_option maxRecDepth 100000 in
theorem wi_X9_clear : Cond.instanceMethod yX9_clear ∈ gl_ := wg_ 491 (by decide +kernel) rfl
set_option maxRecDepth 100000 in
theorem wi_X9_copyOf : Cond.instanceMethod yX9_copyOf ∈ gl_ := wg_ 1185 (by decide +kernel) rfl
set_option maxRecDepth 100000 in
theorem wi_X9_dayOfDate : Cond.instanceMethod yX9_dayOfDate ∈ gl_ := wg_ 724 (by decide +kernel) rfl
set_option maxRecDepth 100000 in
theorem wi_X9_hasLand : Cond.instanceMethod yX9_hasLand ∈ gl_ := wg_ 637 (by decide +kernel) rfl
set_option maxRecDepth 100000 in
theorem wi_X9_hasMonth : Cond.instanceMethod yX9_hasMonth ∈ gl_ := wg_ 645 (by decide +kernel) rfl
set_option maxRecDepth 100000 in
theorem wi_X9_hasPlainDate : Cond.instanceMethod yX9_hasPlainDate ∈ gl_ := wg_ 1095 (by decide +kernel) rfl
set_option maxRecDepth 100000 in
theorem wi_X9_init : Cond.instanceMethod yX9_init ∈ gl_ := wg_ 158 (by decide +kernel) rfl
set_option maxRecDepth 100000 in
theorem wi_X9_insertFeast : Cond.instanceMethod yX9_insertFeast ∈ gl_ := wg_ 608 (by decide +kernel) rfl
set_option maxRecDepth 100000 in
theorem wi_X9_latestFeastOf : Cond.instanceMethod yX9_latestFeastOf ∈ gl_ := wg_ 1125 (by decide +kernel) rfl
set_option maxRecDepth 100000 in
theorem wi_X9_noteChange : Cond.instanceMethod yX9_noteChange ∈ gl_ := wg_ 1104 (by decide +kernel) rfl
set_option maxRecDepth 100000 in
theorem wi_X9_noteEnded : Cond.instanceMethod yX9_noteEnded ∈ gl_ := wg_ 1129 (by decide +kernel) rfl
set_option maxRecDepth 100000 in
theorem wi_X9_noteFounded : Cond.instanceMethod yX9_noteFounded ∈ gl_ := wg_ 1100 (by decide +kernel) rfl
set_option maxRecDepth 100000 in
theorem wi_X9_noteGranted : Cond.instanceMethod yX9_noteGranted ∈ gl_ := wg_ 1117 (by decide +kernel) rfl
set_option maxRecDepth 100000 in
theorem wi_X9_removeFeast : Cond.instanceMethod yX9_removeFeast ∈ gl_ := wg_ 1133 (by decide +kernel) rfl
set_option maxRecDepth 100000 in
theorem wi_X9_takeBackLatest : Cond.instanceMethod yX9_takeBackLatest ∈ gl_ := wg_ 1141 (by decide +kernel) rfl
set_option maxRecDepth 100000 in
theorem wi_X9_trucesOn : Cond.instanceMethod yX9_trucesOn ∈ gl_ := wg_ 992 (by decide +kernel) rfl
set_option maxRecDepth 100000 in
theorem ws_J0_charAt_5068e : Cond.selects RJ0 yJ0_charAt_5068e yJ0_charAt_5068e ∈ gl_ := wg_ 520 (by decide +kernel) rfl
set_option maxRecDepth 100000 in
theorem ws_J0_coder_7d493 : Cond.selects RJ0 yJ0_coder_7d493 yJ0_coder_7d493 ∈ gl_ := wg_ 514 (by decide +kernel) rfl
set_option maxRecDepth 100000 in
theorem ws_J0_isLatin1_aae02 : Cond.selects RJ0 yJ0_isLatin1_aae02 yJ0_isLatin1_aae02 ∈ gl_ := wg_ 524 (by decide +kernel) rfl
set_option maxRecDepth 100000 in
theorem ws_J0_length_8abf5 : Cond.selects RJ0 yJ0_length_8abf5 yJ0_length_8abf5 ∈ gl_ := wg_ 510 (by decide +kernel) rfl
set_option maxRecDepth 100000 in
theorem ws_X0_ageBy : Cond.selects RX0 yX0_ageBy yX0_ageBy ∈ gl_ := wg_ 1010 (by decide +kernel) rfl
set_option maxRecDepth 100000 in
theorem ws_X0_allFight : Cond.selects RX0 yX0_allFight yX0_allFight ∈ gl_ := wg_ 765 (by decide +kernel) rfl
set_option maxRecDepth 100000 in
theorem ws_X0_aloneOn : Cond.selects RX0 yX0_aloneOn yX0_aloneOn ∈ gl_ := wg_ 1044 (by decide +kernel) rfl
set_option maxRecDepth 100000 in
theorem ws_X0_bringUpToDate : Cond.selects RX0 yX0_bringUpToDate yX0_bringUpToDate ∈ gl_ := wg_ 685 (by decide +kernel) rfl
set_option maxRecDepth 100000 in
theorem ws_X0_clashDay : Cond.selects RX0 yX0_clashDay yX0_clashDay ∈ gl_ := wg_ 1028 (by decide +kernel) rfl
set_option maxRecDepth 100000 in
theorem ws_X0_daysAlone : Cond.selects RX0 yX0_daysAlone yX0_daysAlone ∈ gl_ := wg_ 1040 (by decide +kernel) rfl
set_option maxRecDepth 100000 in
theorem ws_X0_fightingDays : Cond.selects RX0 yX0_fightingDays yX0_fightingDays ∈ gl_ := wg_ 773 (by decide +kernel) rfl
set_option maxRecDepth 100000 in
theorem ws_X0_fillDates : Cond.selects RX0 yX0_fillDates yX0_fillDates ∈ gl_ := wg_ 692 (by decide +kernel) rfl
set_option maxRecDepth 100000 in
theorem ws_X0_fillFighters : Cond.selects RX0 yX0_fillFighters yX0_fillFighters ∈ gl_ := wg_ 713 (by decide +kernel) rfl
set_option maxRecDepth 100000 in
theorem ws_X0_fillReasons : Cond.selects RX0 yX0_fillReasons yX0_fillReasons ∈ gl_ := wg_ 697 (by decide +kernel) rfl
set_option maxRecDepth 100000 in
theorem ws_X0_forgetAll : Cond.selects RX0 yX0_forgetAll yX0_forgetAll ∈ gl_ := wg_ 626 (by decide +kernel) rfl
set_option maxRecDepth 100000 in
theorem ws_X0_forgetReasons : Cond.selects RX0 yX0_forgetReasons yX0_forgetReasons ∈ gl_ := wg_ 1109 (by decide +kernel) rfl
set_option maxRecDepth 100000 in
theorem ws_X0_markFeast : Cond.selects RX0 yX0_markFeast yX0_markFeast ∈ gl_ := wg_ 701 (by decide +kernel) rfl
set_option maxRecDepth 100000 in
theorem ws_X0_markReason : Cond.selects RX0 yX0_markReason yX0_markReason ∈ gl_ := wg_ 709 (by decide +kernel) rfl
set_option maxRecDepth 100000 in
theorem ws_X0_monthDay : Cond.selects RX0 yX0_monthDay yX0_monthDay ∈ gl_ := wg_ 825 (by decide +kernel) rfl
set_option maxRecDepth 100000 in
theorem ws_X0_part : Cond.selects RX0 yX0_part yX0_part ∈ gl_ := wg_ 717 (by decide +kernel) rfl
set_option maxRecDepth 100000 in
theorem ws_X0_reason : Cond.selects RX0 yX0_reason yX0_reason ∈ gl_ := wg_ 742 (by decide +kernel) rfl
set_option maxRecDepth 100000 in
theorem ws_X0_seekBeginning : Cond.selects RX0 yX0_seekBeginning yX0_seekBeginning ∈ gl_ := wg_ 1052 (by decide +kernel) rfl
set_option maxRecDepth 100000 in
theorem ws_X0_seekWait : Cond.selects RX0 yX0_seekWait yX0_seekWait ∈ gl_ := wg_ 782 (by decide +kernel) rfl
set_option maxRecDepth 100000 in
theorem ws_X10_age : Cond.selects RX10 yX10_age yX10_age ∈ gl_ := wg_ 1006 (by decide +kernel) rfl
set_option maxRecDepth 100000 in
theorem ws_X10_alike : Cond.selects RX10 yX10_alike yX10_alike ∈ gl_ := wg_ 821 (by decide +kernel) rfl
set_option maxRecDepth 100000 in
theorem ws_X10_alone : Cond.selects RX10 yX10_alone yX10_alone ∈ gl_ := wg_ 1036 (by decide +kernel) rfl
set_option maxRecDepth 100000 in
theorem ws_X10_apart : Cond.selects RX10 yX10_apart yX10_apart ∈ gl_ := wg_ 910 (by decide +kernel) rfl
set_option maxRecDepth 100000 in
theorem ws_X10_ask : Cond.selects RX10 yX10_ask yX10_ask ∈ gl_ := wg_ 969 (by decide +kernel) rfl
set_option maxRecDepth 100000 in
theorem ws_X10_back : Cond.selects RX10 yX10_back yX10_back ∈ gl_ := wg_ 1195 (by decide +kernel) rfl
set_option maxRecDepth 100000 in
theorem ws_X10_begin : Cond.selects RX10 yX10_begin yX10_begin ∈ gl_ := wg_ 1048 (by decide +kernel) rfl
set_option maxRecDepth 100000 in
theorem ws_X10_begins : Cond.selects RX10 yX10_begins yX10_begins ∈ gl_ := wg_ 1058 (by decide +kernel) rfl
set_option maxRecDepth 100000 in
theorem ws_X10_bridge : Cond.selects RX10 yX10_bridge yX10_bridge ∈ gl_ := wg_ 869 (by decide +kernel) rfl
set_option maxRecDepth 100000 in
theorem ws_X10_bridged : Cond.selects RX10 yX10_bridged yX10_bridged ∈ gl_ := wg_ 873 (by decide +kernel) rfl
set_option maxRecDepth 100000 in
theorem ws_X10_clash : Cond.selects RX10 yX10_clash yX10_clash ∈ gl_ := wg_ 1024 (by decide +kernel) rfl
set_option maxRecDepth 100000 in
theorem ws_X10_comes : Cond.selects RX10 yX10_comes yX10_comes ∈ gl_ := wg_ 833 (by decide +kernel) rfl
set_option maxRecDepth 100000 in
theorem ws_X10_count : Cond.selects RX10 yX10_count yX10_count ∈ gl_ := wg_ 1174 (by decide +kernel) rfl
set_option maxRecDepth 100000 in
theorem ws_X10_date : Cond.selects RX10 yX10_date yX10_date ∈ gl_ := wg_ 670 (by decide +kernel) rfl
set_option maxRecDepth 100000 in
theorem ws_X10_day : Cond.selects RX10 yX10_day yX10_day ∈ gl_ := wg_ 721 (by decide +kernel) rfl
set_option maxRecDepth 100000 in
theorem ws_X10_drawn : Cond.selects RX10 yX10_drawn yX10_drawn ∈ gl_ := wg_ 1147 (by decide +kernel) rfl
set_option maxRecDepth 100000 in
theorem ws_X10_end : Cond.selects RX10 yX10_end yX10_end ∈ gl_ := wg_ 480 (by decide +kernel) rfl
set_option maxRecDepth 100000 in
theorem ws_X10_ends : Cond.selects RX10 yX10_ends yX10_ends ∈ gl_ := wg_ 1122 (by decide +kernel) rfl
set_option maxRecDepth 100000 in
theorem ws_X10_fault : Cond.selects RX10 yX10_fault yX10_fault ∈ gl_ := wg_ 630 (by decide +kernel) rfl
set_option maxRecDepth 100000 in
theorem ws_X10_feast : Cond.selects RX10 yX10_feast yX10_feast ∈ gl_ := wg_ 662 (by decide +kernel) rfl
set_option maxRecDepth 100000 in
theorem ws_X10_feed : Cond.selects RX10 yX10_feed yX10_feed ∈ gl_ := wg_ 472 (by decide +kernel) rfl
set_option maxRecDepth 100000 in
theorem ws_X10_fightsInRain : Cond.selects RX10 yX10_fightsInRain yX10_fightsInRain ∈ gl_ := wg_ 9 (by decide +kernel) rfl
set_option maxRecDepth 100000 in
theorem ws_X10_fit : Cond.selects RX10 yX10_fit yX10_fit ∈ gl_ := wg_ 953 (by decide +kernel) rfl
set_option maxRecDepth 100000 in
theorem ws_X10_fits : Cond.selects RX10 yX10_fits yX10_fits ∈ gl_ := wg_ 931 (by decide +kernel) rfl
set_option maxRecDepth 100000 in
theorem ws_X10_found : Cond.selects RX10 yX10_found yX10_found ∈ gl_ := wg_ 1092 (by decide +kernel) rfl
set_option maxRecDepth 100000 in
theorem ws_X10_founded : Cond.selects RX10 yX10_founded yX10_founded ∈ gl_ := wg_ 864 (by decide +kernel) rfl
set_option maxRecDepth 100000 in
theorem ws_X10_gains : Cond.selects RX10 yX10_gains yX10_gains ∈ gl_ := wg_ 1016 (by decide +kernel) rfl
set_option maxRecDepth 100000 in
theorem ws_X10_game : Cond.selects RX10 yX10_game yX10_game ∈ gl_ := wg_ 1062 (by decide +kernel) rfl
set_option maxRecDepth 100000 in
theorem ws_X10_grant : Cond.selects RX10 yX10_grant yX10_grant ∈ gl_ := wg_ 1113 (by decide +kernel) rfl
set_option maxRecDepth 100000 in
theorem ws_X10_holds : Cond.selects RX10 yX10_holds yX10_holds ∈ gl_ := wg_ 989 (by decide +kernel) rfl
set_option maxRecDepth 100000 in
theorem ws_X10_idle : Cond.selects RX10 yX10_idle yX10_idle ∈ gl_ := wg_ 922 (by decide +kernel) rfl
set_option maxRecDepth 100000 in
theorem ws_X10_image : Cond.selects RX10 yX10_image yX10_image ∈ gl_ := wg_ 1182 (by decide +kernel) rfl
set_option maxRecDepth 100000 in
theorem ws_X10_isDayOfWar : Cond.selects RX10 yX10_isDayOfWar yX10_isDayOfWar ∈ gl_ := wg_ 2 (by decide +kernel) rfl
set_option maxRecDepth 100000 in
theorem ws_X10_isLandAndDay : Cond.selects RX10 yX10_isLandAndDay yX10_isLandAndDay ∈ gl_ := wg_ 0 (by decide +kernel) rfl
set_option maxRecDepth 100000 in
theorem ws_X10_isPair : Cond.selects RX10 yX10_isPair yX10_isPair ∈ gl_ := wg_ 5 (by decide +kernel) rfl
set_option maxRecDepth 100000 in
theorem ws_X10_isPairAndDay : Cond.selects RX10 yX10_isPairAndDay yX10_isPairAndDay ∈ gl_ := wg_ 4 (by decide +kernel) rfl
set_option maxRecDepth 100000 in
theorem ws_X10_isSaintly : Cond.selects RX10 yX10_isSaintly yX10_isSaintly ∈ gl_ := wg_ 6 (by decide +kernel) rfl
set_option maxRecDepth 100000 in
theorem ws_X10_isSetInSpan : Cond.selects RX10 yX10_isSetInSpan yX10_isSetInSpan ∈ gl_ := wg_ 3 (by decide +kernel) rfl
set_option maxRecDepth 100000 in
theorem ws_X10_land : Cond.selects RX10 yX10_land yX10_land ∈ gl_ := wg_ 634 (by decide +kernel) rfl
set_option maxRecDepth 100000 in
theorem ws_X10_leaves : Cond.selects RX10 yX10_leaves yX10_leaves ∈ gl_ := wg_ 985 (by decide +kernel) rfl
set_option maxRecDepth 100000 in
theorem ws_X10_luck : Cond.selects RX10 yX10_luck yX10_luck ∈ gl_ := wg_ 1166 (by decide +kernel) rfl
set_option maxRecDepth 100000 in
theorem ws_X10_many : Cond.selects RX10 yX10_many yX10_many ∈ gl_ := wg_ 769 (by decide +kernel) rfl
set_option maxRecDepth 100000 in
theorem ws_X10_march : Cond.selects RX10 yX10_march yX10_march ∈ gl_ := wg_ 1020 (by decide +kernel) rfl
set_option maxRecDepth 100000 in
theorem ws_X10_may : Cond.selects RX10 yX10_may yX10_may ∈ gl_ := wg_ 734 (by decide +kernel) rfl
set_option maxRecDepth 100000 in
theorem ws_X10_meets : Cond.selects RX10 yX10_meets yX10_meets ∈ gl_ := wg_ 797 (by decide +kernel) rfl
set_option maxRecDepth 100000 in
theorem ws_X10_month : Cond.selects RX10 yX10_month yX10_month ∈ gl_ := wg_ 642 (by decide +kernel) rfl
set_option maxRecDepth 100000 in
theorem ws_X10_most : Cond.selects RX10 yX10_most yX10_most ∈ gl_ := wg_ 1001 (by decide +kernel) rfl
set_option maxRecDepth 100000 in
theorem ws_X10_next : Cond.selects RX10 yX10_next yX10_next ∈ gl_ := wg_ 754 (by decide +kernel) rfl
set_option maxRecDepth 100000 in
theorem ws_X10_older : Cond.selects RX10 yX10_older yX10_older ∈ gl_ := wg_ 902 (by decide +kernel) rfl
set_option maxRecDepth 100000 in
theorem ws_X10_oldest : Cond.selects RX10 yX10_oldest yX10_oldest ∈ gl_ := wg_ 877 (by decide +kernel) rfl
set_option maxRecDepth 100000 in
theorem ws_X10_overlap : Cond.selects RX10 yX10_overlap yX10_overlap ∈ gl_ := wg_ 997 (by decide +kernel) rfl
set_option maxRecDepth 100000 in
theorem ws_X10_paste : Cond.selects RX10 yX10_paste yX10_paste ∈ gl_ := wg_ 1218 (by decide +kernel) rfl
set_option maxRecDepth 100000 in
theorem ws_X10_period : Cond.selects RX10 yX10_period yX10_period ∈ gl_ := wg_ 813 (by decide +kernel) rfl
set_option maxRecDepth 100000 in
theorem ws_X10_place : Cond.selects RX10 yX10_place yX10_place ∈ gl_ := wg_ 1032 (by decide +kernel) rfl
set_option maxRecDepth 100000 in
theorem ws_X10_readOrders : Cond.selects RX10 yX10_readOrders yX10_readOrders ∈ gl_ := wg_ 7 (by decide +kernel) rfl
set_option maxRecDepth 100000 in
theorem ws_X10_readSights : Cond.selects RX10 yX10_readSights yX10_readSights ∈ gl_ := wg_ 8 (by decide +kernel) rfl
set_option maxRecDepth 100000 in
theorem ws_X10_row : Cond.selects RX10 yX10_row yX10_row ∈ gl_ := wg_ 1199 (by decide +kernel) rfl
set_option maxRecDepth 100000 in
theorem ws_X10_saints : Cond.selects RX10 yX10_saints yX10_saints ∈ gl_ := wg_ 837 (by decide +kernel) rfl
set_option maxRecDepth 100000 in
theorem ws_X10_share : Cond.selects RX10 yX10_share yX10_share ∈ gl_ := wg_ 790 (by decide +kernel) rfl
set_option maxRecDepth 100000 in
theorem ws_X10_slotsWithRow : Cond.selects RX10 yX10_slotsWithRow yX10_slotsWithRow ∈ gl_ := wg_ 10 (by decide +kernel) rfl
set_option maxRecDepth 100000 in
theorem ws_X10_sure : Cond.selects RX10 yX10_sure yX10_sure ∈ gl_ := wg_ 957 (by decide +kernel) rfl
set_option maxRecDepth 100000 in
theorem ws_X10_takes : Cond.selects RX10 yX10_takes yX10_takes ∈ gl_ := wg_ 1088 (by decide +kernel) rfl
set_option maxRecDepth 100000 in
theorem ws_X10_told : Cond.selects RX10 yX10_told yX10_told ∈ gl_ := wg_ 1 (by decide +kernel) rfl
set_option maxRecDepth 100000 in
theorem ws_X10_truce : Cond.selects RX10 yX10_truce yX10_truce ∈ gl_ := wg_ 666 (by decide +kernel) rfl
set_option maxRecDepth 100000 in
theorem ws_X10_undo : Cond.selects RX10 yX10_undo yX10_undo ∈ gl_ := wg_ 1138 (by decide +kernel) rfl
set_option maxRecDepth 100000 in
theorem ws_X10_waiting : Cond.selects RX10 yX10_waiting yX10_waiting ∈ gl_ := wg_ 786 (by decide +kernel) rfl
set_option maxRecDepth 100000 in
theorem ws_X10_waits : Cond.selects RX10 yX10_waits yX10_waits ∈ gl_ := wg_ 778 (by decide +kernel) rfl
set_option maxRecDepth 100000 in
theorem ws_X10_war : Cond.selects RX10 yX10_war yX10_war ∈ gl_ := wg_ 484 (by decide +kernel) rfl
set_option maxRecDepth 100000 in
theorem ws_X10_who : Cond.selects RX10 yX10_who yX10_who ∈ gl_ := wg_ 746 (by decide +kernel) rfl
set_option maxRecDepth 100000 in
theorem ws_X10_why : Cond.selects RX10 yX10_why yX10_why ∈ gl_ := wg_ 738 (by decide +kernel) rfl
set_option maxRecDepth 100000 in
theorem ws_X10_write : Cond.selects RX10 yX10_write yX10_write ∈ gl_ := wg_ 1210 (by decide +kernel) rfl
set_option maxRecDepth 100000 in
theorem ws_X10_years : Cond.selects RX10 yX10_years yX10_years ∈ gl_ := wg_ 829 (by decide +kernel) rfl
set_option maxRecDepth 100000 in
theorem ws_X11_advance : Cond.selects RX11 yX11_advance yX11_advance ∈ gl_ := wg_ 11 (by decide +kernel) rfl
set_option maxRecDepth 100000 in
theorem ws_X11_age : Cond.selects RX11 yX11_age yX11_age ∈ gl_ := wg_ 1792 (by decide +kernel) rfl
set_option maxRecDepth 100000 in
theorem ws_X11_ageOf : Cond.selects RX11 yX11_ageOf yX11_ageOf ∈ gl_ := wg_ 66 (by decide +kernel) rfl
set_option maxRecDepth 100000 in
theorem ws_X11_alike : Cond.selects RX11 yX11_alike yX11_alike ∈ gl_ := wg_ 1647 (by decide +kernel) rfl
set_option maxRecDepth 100000 in
theorem ws_X11_allLands : Cond.selects RX11 yX11_allLands yX11_allLands ∈ gl_ := wg_ 45 (by decide +kernel) rfl
set_option maxRecDepth 100000 in
theorem ws_X11_alone : Cond.selects RX11 yX11_alone yX11_alone ∈ gl_ := wg_ 1824 (by decide +kernel) rfl
set_option maxRecDepth 100000 in
theorem ws_X11_aloneOf : Cond.selects RX11 yX11_aloneOf yX11_aloneOf ∈ gl_ := wg_ 69 (by decide +kernel) rfl
set_option maxRecDepth 100000 in
theorem ws_X11_apart : Cond.selects RX11 yX11_apart yX11_apart ∈ gl_ := wg_ 1722 (by decide +kernel) rfl
set_option maxRecDepth 100000 in
theorem ws_X11_areSaints : Cond.selects RX11 yX11_areSaints yX11_areSaints ∈ gl_ := wg_ 52 (by decide +kernel) rfl
set_option maxRecDepth 100000 in
theorem ws_X11_areTwo : Cond.selects RX11 yX11_areTwo yX11_areTwo ∈ gl_ := wg_ 49 (by decide +kernel) rfl
set_option maxRecDepth 100000 in
theorem ws_X11_ask : Cond.selects RX11 yX11_ask yX11_ask ∈ gl_ := wg_ 1760 (by decide +kernel) rfl
set_option maxRecDepth 100000 in
theorem ws_X11_askOf : Cond.selects RX11 yX11_askOf yX11_askOf ∈ gl_ := wg_ 63 (by decide +kernel) rfl
set_option maxRecDepth 100000 in
theorem ws_X11_asksOrders : Cond.selects RX11 yX11_asksOrders yX11_asksOrders ∈ gl_ := wg_ 55 (by decide +kernel) rfl
set_option maxRecDepth 100000 in
theorem ws_X11_asksSeen : Cond.selects RX11 yX11_asksSeen yX11_asksSeen ∈ gl_ := wg_ 59 (by decide +kernel) rfl
set_option maxRecDepth 100000 in
theorem ws_X11_back : Cond.selects RX11 yX11_back yX11_back ∈ gl_ := wg_ 1358 (by decide +kernel) rfl
set_option maxRecDepth 100000 in
theorem ws_X11_begin : Cond.selects RX11 yX11_begin yX11_begin ∈ gl_ := wg_ 1832 (by decide +kernel) rfl
set_option maxRecDepth 100000 in
theorem ws_X11_beginOf : Cond.selects RX11 yX11_beginOf yX11_beginOf ∈ gl_ := wg_ 71 (by decide +kernel) rfl
set_option maxRecDepth 100000 in
theorem ws_X11_begins : Cond.selects RX11 yX11_begins yX11_begins ∈ gl_ := wg_ 1845 (by decide +kernel) rfl
set_option maxRecDepth 100000 in
theorem ws_X11_bridge : Cond.selects RX11 yX11_bridge yX11_bridge ∈ gl_ := wg_ 1683 (by decide +kernel) rfl
set_option maxRecDepth 100000 in
theorem ws_X11_bridged : Cond.selects RX11 yX11_bridged yX11_bridged ∈ gl_ := wg_ 1691 (by decide +kernel) rfl
set_option maxRecDepth 100000 in
theorem ws_X11_clash : Cond.selects RX11 yX11_clash yX11_clash ∈ gl_ := wg_ 1808 (by decide +kernel) rfl
set_option maxRecDepth 100000 in
theorem ws_X11_comes : Cond.selects RX11 yX11_comes yX11_comes ∈ gl_ := wg_ 1659 (by decide +kernel) rfl
set_option maxRecDepth 100000 in
theorem ws_X11_copy : Cond.selects RX11 yX11_copy yX11_copy ∈ gl_ := wg_ 74 (by decide +kernel) rfl
set_option maxRecDepth 100000 in
theorem ws_X11_count : Cond.selects RX11 yX11_count yX11_count ∈ gl_ := wg_ 1923 (by decide +kernel) rfl
set_option maxRecDepth 100000 in
theorem ws_X11_date : Cond.selects RX11 yX11_date yX11_date ∈ gl_ := wg_ 1511 (by decide +kernel) rfl
set_option maxRecDepth 100000 in
theorem ws_X11_dateOf : Cond.selects RX11 yX11_dateOf yX11_dateOf ∈ gl_ := wg_ 37 (by decide +kernel) rfl
set_option maxRecDepth 100000 in
theorem ws_X11_day : Cond.selects RX11 yX11_day yX11_day ∈ gl_ := wg_ 1544 (by decide +kernel) rfl
set_option maxRecDepth 100000 in
theorem ws_X11_dayAt : Cond.selects RX11 yX11_dayAt yX11_dayAt ∈ gl_ := wg_ 58 (by decide +kernel) rfl
set_option maxRecDepth 100000 in
theorem ws_X11_dayBy : Cond.selects RX11 yX11_dayBy yX11_dayBy ∈ gl_ := wg_ 39 (by decide +kernel) rfl
set_option maxRecDepth 100000 in
theorem ws_X11_drawn : Cond.selects RX11 yX11_drawn yX11_drawn ∈ gl_ := wg_ 1902 (by decide +kernel) rfl
set_option maxRecDepth 100000 in
theorem ws_X11_end : Cond.selects RX11 yX11_end yX11_end ∈ gl_ := wg_ 1366 (by decide +kernel) rfl
set_option maxRecDepth 100000 in
theorem ws_X11_ends : Cond.selects RX11 yX11_ends yX11_ends ∈ gl_ := wg_ 1894 (by decide +kernel) rfl
set_option maxRecDepth 100000 in
theorem ws_X11_errs : Cond.selects RX11 yX11_errs yX11_errs ∈ gl_ := wg_ 18 (by decide +kernel) rfl
set_option maxRecDepth 100000 in
theorem ws_X11_fault : Cond.selects RX11 yX11_fault yX11_fault ∈ gl_ := wg_ 1370 (by decide +kernel) rfl
set_option maxRecDepth 100000 in
theorem ws_X11_feast : Cond.selects RX11 yX11_feast yX11_feast ∈ gl_ := wg_ 1494 (by decide +kernel) rfl
set_option maxRecDepth 100000 in
theorem ws_X11_feed : Cond.selects RX11 yX11_feed yX11_feed ∈ gl_ := wg_ 1362 (by decide +kernel) rfl
set_option maxRecDepth 100000 in
theorem ws_X11_findBridge : Cond.selects RX11 yX11_findBridge yX11_findBridge ∈ gl_ := wg_ 54 (by decide +kernel) rfl
set_option maxRecDepth 100000 in
theorem ws_X11_findClash : Cond.selects RX11 yX11_findClash yX11_findClash ∈ gl_ := wg_ 68 (by decide +kernel) rfl
set_option maxRecDepth 100000 in
theorem ws_X11_findSaints : Cond.selects RX11 yX11_findSaints yX11_findSaints ∈ gl_ := wg_ 53 (by decide +kernel) rfl
set_option maxRecDepth 100000 in
theorem ws_X11_findWait : Cond.selects RX11 yX11_findWait yX11_findWait ∈ gl_ := wg_ 48 (by decide +kernel) rfl
set_option maxRecDepth 100000 in
theorem ws_X11_fit : Cond.selects RX11 yX11_fit yX11_fit ∈ gl_ := wg_ 1752 (by decide +kernel) rfl
set_option maxRecDepth 100000 in
theorem ws_X11_fits : Cond.selects RX11 yX11_fits yX11_fits ∈ gl_ := wg_ 1731 (by decide +kernel) rfl
set_option maxRecDepth 100000 in
theorem ws_X11_fitsOf : Cond.selects RX11 yX11_fitsOf yX11_fitsOf ∈ gl_ := wg_ 60 (by decide +kernel) rfl
set_option maxRecDepth 100000 in
theorem ws_X11_found : Cond.selects RX11 yX11_found yX11_found ∈ gl_ := wg_ 1882 (by decide +kernel) rfl
set_option maxRecDepth 100000 in
theorem ws_X11_founded : Cond.selects RX11 yX11_founded yX11_founded ∈ gl_ := wg_ 1678 (by decide +kernel) rfl
set_option maxRecDepth 100000 in
theorem ws_X11_freshLand : Cond.selects RX11 yX11_freshLand yX11_freshLand ∈ gl_ := wg_ 25 (by decide +kernel) rfl
set_option maxRecDepth 100000 in
theorem ws_X11_gains : Cond.selects RX11 yX11_gains yX11_gains ∈ gl_ := wg_ 1800 (by decide +kernel) rfl
set_option maxRecDepth 100000 in
theorem ws_X11_game : Cond.selects RX11 yX11_game yX11_game ∈ gl_ := wg_ 1849 (by decide +kernel) rfl
set_option maxRecDepth 100000 in
theorem ws_X11_goRain : Cond.selects RX11 yX11_goRain yX11_goRain ∈ gl_ := wg_ 76 (by decide +kernel) rfl
set_option maxRecDepth 100000 in
theorem ws_X11_good : Cond.selects RX11 yX11_good yX11_good ∈ gl_ := wg_ 13 (by decide +kernel) rfl
set_option maxRecDepth 100000 in
theorem ws_X11_grant : Cond.selects RX11 yX11_grant yX11_grant ∈ gl_ := wg_ 1890 (by decide +kernel) rfl
set_option maxRecDepth 100000 in
theorem ws_X11_holdOn : Cond.selects RX11 yX11_holdOn yX11_holdOn ∈ gl_ := wg_ 65 (by decide +kernel) rfl
set_option maxRecDepth 100000 in
theorem ws_X11_holds : Cond.selects RX11 yX11_holds yX11_holds ∈ gl_ := wg_ 1776 (by decide +kernel) rfl
set_option maxRecDepth 100000 in
theorem ws_X11_idle : Cond.selects RX11 yX11_idle yX11_idle ∈ gl_ := wg_ 1727 (by decide +kernel) rfl
set_option maxRecDepth 100000 in
theorem ws_X11_image : Cond.selects RX11 yX11_image yX11_image ∈ gl_ := wg_ 1350 (by decide +kernel) rfl
set_option maxRecDepth 100000 in
theorem ws_X11_intAt : Cond.selects RX11 yX11_intAt yX11_intAt ∈ gl_ := wg_ 57 (by decide +kernel) rfl
set_option maxRecDepth 100000 in
theorem ws_X11_is : Cond.selects RX11 yX11_is yX11_is ∈ gl_ := wg_ 17 (by decide +kernel) rfl
set_option maxRecDepth 100000 in
theorem ws_X11_isBegin : Cond.selects RX11 yX11_isBegin yX11_isBegin ∈ gl_ := wg_ 70 (by decide +kernel) rfl
set_option maxRecDepth 100000 in
theorem ws_X11_isClash : Cond.selects RX11 yX11_isClash yX11_isClash ∈ gl_ := wg_ 67 (by decide +kernel) rfl
set_option maxRecDepth 100000 in
theorem ws_X11_isCounted : Cond.selects RX11 yX11_isCounted yX11_isCounted ∈ gl_ := wg_ 51 (by decide +kernel) rfl
set_option maxRecDepth 100000 in
theorem ws_X11_isDate : Cond.selects RX11 yX11_isDate yX11_isDate ∈ gl_ := wg_ 38 (by decide +kernel) rfl
set_option maxRecDepth 100000 in
theorem ws_X11_isGame : Cond.selects RX11 yX11_isGame yX11_isGame ∈ gl_ := wg_ 72 (by decide +kernel) rfl
set_option maxRecDepth 100000 in
theorem ws_X11_isLand : Cond.selects RX11 yX11_isLand yX11_isLand ∈ gl_ := wg_ 27 (by decide +kernel) rfl
set_option maxRecDepth 100000 in
theorem ws_X11_isMonth : Cond.selects RX11 yX11_isMonth yX11_isMonth ∈ gl_ := wg_ 29 (by decide +kernel) rfl
set_option maxRecDepth 100000 in
theorem ws_X11_isSeen : Cond.selects RX11 yX11_isSeen yX11_isSeen ∈ gl_ := wg_ 61 (by decide +kernel) rfl
set_option maxRecDepth 100000 in
theorem ws_X11_isSet : Cond.selects RX11 yX11_isSet yX11_isSet ∈ gl_ := wg_ 44 (by decide +kernel) rfl
set_option maxRecDepth 100000 in
theorem ws_X11_isWar : Cond.selects RX11 yX11_isWar yX11_isWar ∈ gl_ := wg_ 42 (by decide +kernel) rfl
set_option maxRecDepth 100000 in
theorem ws_X11_isWeekday : Cond.selects RX11 yX11_isWeekday yX11_isWeekday ∈ gl_ := wg_ 50 (by decide +kernel) rfl
set_option maxRecDepth 100000 in
theorem ws_X11_keepChange : Cond.selects RX11 yX11_keepChange yX11_keepChange ∈ gl_ := wg_ 75 (by decide +kernel) rfl
set_option maxRecDepth 100000 in
theorem ws_X11_land : Cond.selects RX11 yX11_land yX11_land ∈ gl_ := wg_ 1465 (by decide +kernel) rfl
set_option maxRecDepth 100000 in
theorem ws_X11_lay : Cond.selects RX11 yX11_lay yX11_lay ∈ gl_ := wg_ 33 (by decide +kernel) rfl
set_option maxRecDepth 100000 in
theorem ws_X11_layDates : Cond.selects RX11 yX11_layDates yX11_layDates ∈ gl_ := wg_ 34 (by decide +kernel) rfl
set_option maxRecDepth 100000 in
theorem ws_X11_layWhy : Cond.selects RX11 yX11_layWhy yX11_layWhy ∈ gl_ := wg_ 35 (by decide +kernel) rfl
set_option maxRecDepth 100000 in
theorem ws_X11_leaves : Cond.selects RX11 yX11_leaves yX11_leaves ∈ gl_ := wg_ 1772 (by decide +kernel) rfl
set_option maxRecDepth 100000 in
theorem ws_X11_lengthOf : Cond.selects RX11 yX11_lengthOf yX11_lengthOf ∈ gl_ := wg_ 30 (by decide +kernel) rfl
set_option maxRecDepth 100000 in
theorem ws_X11_luck : Cond.selects RX11 yX11_luck yX11_luck ∈ gl_ := wg_ 1919 (by decide +kernel) rfl
set_option maxRecDepth 100000 in
theorem ws_X11_many : Cond.selects RX11 yX11_many yX11_many ∈ gl_ := wg_ 1600 (by decide +kernel) rfl
set_option maxRecDepth 100000 in
theorem ws_X11_manyOf : Cond.selects RX11 yX11_manyOf yX11_manyOf ∈ gl_ := wg_ 47 (by decide +kernel) rfl
set_option maxRecDepth 100000 in
theorem ws_X11_march : Cond.selects RX11 yX11_march yX11_march ∈ gl_ := wg_ 1804 (by decide +kernel) rfl
set_option maxRecDepth 100000 in
theorem ws_X11_may : Cond.selects RX11 yX11_may yX11_may ∈ gl_ := wg_ 1560 (by decide +kernel) rfl
set_option maxRecDepth 100000 in
theorem ws_X11_mayAll : Cond.selects RX11 yX11_mayAll yX11_mayAll ∈ gl_ := wg_ 46 (by decide +kernel) rfl
set_option maxRecDepth 100000 in
theorem ws_X11_mayOn : Cond.selects RX11 yX11_mayOn yX11_mayOn ∈ gl_ := wg_ 41 (by decide +kernel) rfl
set_option maxRecDepth 100000 in
theorem ws_X11_meets : Cond.selects RX11 yX11_meets yX11_meets ∈ gl_ := wg_ 1630 (by decide +kernel) rfl
set_option maxRecDepth 100000 in
theorem ws_X11_month : Cond.selects RX11 yX11_month yX11_month ∈ gl_ := wg_ 1478 (by decide +kernel) rfl
set_option maxRecDepth 100000 in
theorem ws_X11_most : Cond.selects RX11 yX11_most yX11_most ∈ gl_ := wg_ 1788 (by decide +kernel) rfl
set_option maxRecDepth 100000 in
theorem ws_X11_needs : Cond.selects RX11 yX11_needs yX11_needs ∈ gl_ := wg_ 15 (by decide +kernel) rfl
set_option maxRecDepth 100000 in
theorem ws_X11_next : Cond.selects RX11 yX11_next yX11_next ∈ gl_ := wg_ 1584 (by decide +kernel) rfl
set_option maxRecDepth 100000 in
theorem ws_X11_number : Cond.selects RX11 yX11_number yX11_number ∈ gl_ := wg_ 20 (by decide +kernel) rfl
set_option maxRecDepth 100000 in
theorem ws_X11_numberAt : Cond.selects RX11 yX11_numberAt yX11_numberAt ∈ gl_ := wg_ 56 (by decide +kernel) rfl
set_option maxRecDepth 100000 in
theorem ws_X11_of : Cond.selects RX11 yX11_of yX11_of ∈ gl_ := wg_ 28 (by decide +kernel) rfl
set_option maxRecDepth 100000 in
theorem ws_X11_ofFeast : Cond.selects RX11 yX11_ofFeast yX11_ofFeast ∈ gl_ := wg_ 31 (by decide +kernel) rfl
set_option maxRecDepth 100000 in
theorem ws_X11_ofTruce : Cond.selects RX11 yX11_ofTruce yX11_ofTruce ∈ gl_ := wg_ 32 (by decide +kernel) rfl
set_option maxRecDepth 100000 in
theorem ws_X11_older : Cond.selects RX11 yX11_older yX11_older ∈ gl_ := wg_ 1718 (by decide +kernel) rfl
set_option maxRecDepth 100000 in
theorem ws_X11_oldest : Cond.selects RX11 yX11_oldest yX11_oldest ∈ gl_ := wg_ 1695 (by decide +kernel) rfl
set_option maxRecDepth 100000 in
theorem ws_X11_overlap : Cond.selects RX11 yX11_overlap yX11_overlap ∈ gl_ := wg_ 1784 (by decide +kernel) rfl
set_option maxRecDepth 100000 in
theorem ws_X11_paste : Cond.selects RX11 yX11_paste yX11_paste ∈ gl_ := wg_ 1938 (by decide +kernel) rfl
set_option maxRecDepth 100000 in
theorem ws_X11_period : Cond.selects RX11 yX11_period yX11_period ∈ gl_ := wg_ 1643 (by decide +kernel) rfl
set_option maxRecDepth 100000 in
theorem ws_X11_place : Cond.selects RX11 yX11_place yX11_place ∈ gl_ := wg_ 1820 (by decide +kernel) rfl
set_option maxRecDepth 100000 in
theorem ws_X11_play : Cond.selects RX11 yX11_play yX11_play ∈ gl_ := wg_ 73 (by decide +kernel) rfl
set_option maxRecDepth 100000 in
theorem ws_X11_readFeast : Cond.selects RX11 yX11_readFeast yX11_readFeast ∈ gl_ := wg_ 24 (by decide +kernel) rfl
set_option maxRecDepth 100000 in
theorem ws_X11_readLand : Cond.selects RX11 yX11_readLand yX11_readLand ∈ gl_ := wg_ 22 (by decide +kernel) rfl
set_option maxRecDepth 100000 in
theorem ws_X11_readLine : Cond.selects RX11 yX11_readLine yX11_readLine ∈ gl_ := wg_ 14 (by decide +kernel) rfl
set_option maxRecDepth 100000 in
theorem ws_X11_readMonths : Cond.selects RX11 yX11_readMonths yX11_readMonths ∈ gl_ := wg_ 23 (by decide +kernel) rfl
set_option maxRecDepth 100000 in
theorem ws_X11_readNext : Cond.selects RX11 yX11_readNext yX11_readNext ∈ gl_ := wg_ 21 (by decide +kernel) rfl
set_option maxRecDepth 100000 in
theorem ws_X11_readTruce : Cond.selects RX11 yX11_readTruce yX11_readTruce ∈ gl_ := wg_ 26 (by decide +kernel) rfl
set_option maxRecDepth 100000 in
theorem ws_X11_row : Cond.selects RX11 yX11_row yX11_row ∈ gl_ := wg_ 1927 (by decide +kernel) rfl
set_option maxRecDepth 100000 in
theorem ws_X11_saints : Cond.selects RX11 yX11_saints yX11_saints ∈ gl_ := wg_ 1663 (by decide +kernel) rfl
set_option maxRecDepth 100000 in
theorem ws_X11_see : Cond.selects RX11 yX11_see yX11_see ∈ gl_ := wg_ 12 (by decide +kernel) rfl
set_option maxRecDepth 100000 in
theorem ws_X11_seen : Cond.selects RX11 yX11_seen yX11_seen ∈ gl_ := wg_ 62 (by decide +kernel) rfl
set_option maxRecDepth 100000 in
theorem ws_X11_share : Cond.selects RX11 yX11_share yX11_share ∈ gl_ := wg_ 1623 (by decide +kernel) rfl
set_option maxRecDepth 100000 in
theorem ws_X11_sure : Cond.selects RX11 yX11_sure yX11_sure ∈ gl_ := wg_ 1756 (by decide +kernel) rfl
set_option maxRecDepth 100000 in
theorem ws_X11_takes : Cond.selects RX11 yX11_takes yX11_takes ∈ gl_ := wg_ 16 (by decide +kernel) rfl
set_option maxRecDepth 100000 in
theorem ws_X11_takes_ : Cond.selects RX11 yX11_takes_ yX11_takes_ ∈ gl_ := wg_ 1878 (by decide +kernel) rfl
set_option maxRecDepth 100000 in
theorem ws_X11_told : Cond.selects RX11 yX11_told yX11_told ∈ gl_ := wg_ 19 (by decide +kernel) rfl
set_option maxRecDepth 100000 in
theorem ws_X11_truce : Cond.selects RX11 yX11_truce yX11_truce ∈ gl_ := wg_ 1503 (by decide +kernel) rfl
set_option maxRecDepth 100000 in
theorem ws_X11_undo : Cond.selects RX11 yX11_undo yX11_undo ∈ gl_ := wg_ 1898 (by decide +kernel) rfl
set_option maxRecDepth 100000 in
theorem ws_X11_waiting : Cond.selects RX11 yX11_waiting yX11_waiting ∈ gl_ := wg_ 1619 (by decide +kernel) rfl
set_option maxRecDepth 100000 in
theorem ws_X11_waits : Cond.selects RX11 yX11_waits yX11_waits ∈ gl_ := wg_ 1611 (by decide +kernel) rfl
set_option maxRecDepth 100000 in
theorem ws_X11_war : Cond.selects RX11 yX11_war yX11_war ∈ gl_ := wg_ 1374 (by decide +kernel) rfl
set_option maxRecDepth 100000 in
theorem ws_X11_weekday : Cond.selects RX11 yX11_weekday yX11_weekday ∈ gl_ := wg_ 36 (by decide +kernel) rfl
set_option maxRecDepth 100000 in
theorem ws_X11_who : Cond.selects RX11 yX11_who yX11_who ∈ gl_ := wg_ 1572 (by decide +kernel) rfl
set_option maxRecDepth 100000 in
theorem ws_X11_whoOn : Cond.selects RX11 yX11_whoOn yX11_whoOn ∈ gl_ := wg_ 43 (by decide +kernel) rfl
set_option maxRecDepth 100000 in
theorem ws_X11_why : Cond.selects RX11 yX11_why yX11_why ∈ gl_ := wg_ 1568 (by decide +kernel) rfl
set_option maxRecDepth 100000 in
theorem ws_X11_worstOf : Cond.selects RX11 yX11_worstOf yX11_worstOf ∈ gl_ := wg_ 64 (by decide +kernel) rfl
set_option maxRecDepth 100000 in
theorem ws_X11_write : Cond.selects RX11 yX11_write yX11_write ∈ gl_ := wg_ 1931 (by decide +kernel) rfl
set_option maxRecDepth 100000 in
theorem ws_X11_yearLength : Cond.selects RX11 yX11_yearLength yX11_yearLength ∈ gl_ := wg_ 40 (by decide +kernel) rfl
set_option maxRecDepth 100000 in
theorem ws_X11_years : Cond.selects RX11 yX11_years yX11_years ∈ gl_ := wg_ 1655 (by decide +kernel) rfl
set_option maxRecDepth 100000 in
theorem ws_X1_appendMonth : Cond.selects RX1 yX1_appendMonth yX1_appendMonth ∈ gl_ := wg_ 596 (by decide +kernel) rfl
set_option maxRecDepth 100000 in
theorem ws_X1_clear : Cond.selects RX1 yX1_clear yX1_clear ∈ gl_ := wg_ 584 (by decide +kernel) rfl
set_option maxRecDepth 100000 in
theorem ws_X1_copyOf : Cond.selects RX1 yX1_copyOf yX1_copyOf ∈ gl_ := wg_ 1190 (by decide +kernel) rfl
set_option maxRecDepth 100000 in
theorem ws_X1_dayOn : Cond.selects RX1 yX1_dayOn yX1_dayOn ∈ gl_ := wg_ 705 (by decide +kernel) rfl
set_option maxRecDepth 100000 in
theorem ws_X1_hasWeekday : Cond.selects RX1 yX1_hasWeekday yX1_hasWeekday ∈ gl_ := wg_ 809 (by decide +kernel) rfl
set_option maxRecDepth 100000 in
theorem ws_X1_isLeapYear : Cond.selects RX1 yX1_isLeapYear yX1_isLeapYear ∈ gl_ := wg_ 658 (by decide +kernel) rfl
set_option maxRecDepth 100000 in
theorem ws_X1_leapCycle : Cond.selects RX1 yX1_leapCycle yX1_leapCycle ∈ gl_ := wg_ 817 (by decide +kernel) rfl
set_option maxRecDepth 100000 in
theorem ws_X1_lengthIn : Cond.selects RX1 yX1_lengthIn yX1_lengthIn ∈ gl_ := wg_ 654 (by decide +kernel) rfl
set_option maxRecDepth 100000 in
theorem ws_X2_datedAtRest : Cond.selects RX2 yX2_datedAtRest yX2_datedAtRest ∈ gl_ := wg_ 926 (by decide +kernel) rfl
set_option maxRecDepth 100000 in
theorem ws_X2_daysApart : Cond.selects RX2 yX2_daysApart yX2_daysApart ∈ gl_ := wg_ 914 (by decide +kernel) rfl
set_option maxRecDepth 100000 in
theorem ws_X2_earlierThan : Cond.selects RX2 yX2_earlierThan yX2_earlierThan ∈ gl_ := wg_ 906 (by decide +kernel) rfl
set_option maxRecDepth 100000 in
theorem ws_X2_placeOfOldest : Cond.selects RX2 yX2_placeOfOldest yX2_placeOfOldest ∈ gl_ := wg_ 898 (by decide +kernel) rfl
set_option maxRecDepth 100000 in
theorem ws_X2_read : Cond.selects RX2 yX2_read yX2_read ∈ gl_ := wg_ 888 (by decide +kernel) rfl
set_option maxRecDepth 100000 in
theorem ws_X3_isWord : Cond.selects RX3 yX3_isWord yX3_isWord ∈ gl_ := wg_ 506 (by decide +kernel) rfl
set_option maxRecDepth 100000 in
theorem ws_X3_needNumber : Cond.selects RX3 yX3_needNumber yX3_needNumber ∈ gl_ := wg_ 571 (by decide +kernel) rfl
set_option maxRecDepth 100000 in
theorem ws_X3_needWord : Cond.selects RX3 yX3_needWord yX3_needWord ∈ gl_ := wg_ 563 (by decide +kernel) rfl
set_option maxRecDepth 100000 in
theorem ws_X3_read : Cond.selects RX3 yX3_read yX3_read ∈ gl_ := wg_ 488 (by decide +kernel) rfl
set_option maxRecDepth 100000 in
theorem ws_X3_readFeast : Cond.selects RX3 yX3_readFeast yX3_readFeast ∈ gl_ := wg_ 604 (by decide +kernel) rfl
set_option maxRecDepth 100000 in
theorem ws_X3_readLand : Cond.selects RX3 yX3_readLand yX3_readLand ∈ gl_ := wg_ 580 (by decide +kernel) rfl
set_option maxRecDepth 100000 in
theorem ws_X3_readLine : Cond.selects RX3 yX3_readLine yX3_readLine ∈ gl_ := wg_ 501 (by decide +kernel) rfl
set_option maxRecDepth 100000 in
theorem ws_X3_readMonths : Cond.selects RX3 yX3_readMonths yX3_readMonths ∈ gl_ := wg_ 592 (by decide +kernel) rfl
set_option maxRecDepth 100000 in
theorem ws_X3_readRain : Cond.selects RX3 yX3_readRain yX3_readRain ∈ gl_ := wg_ 558 (by decide +kernel) rfl
set_option maxRecDepth 100000 in
theorem ws_X3_readTruce : Cond.selects RX3 yX3_readTruce yX3_readTruce ∈ gl_ := wg_ 617 (by decide +kernel) rfl
set_option maxRecDepth 100000 in
theorem ws_X3_refuse : Cond.selects RX3 yX3_refuse yX3_refuse ∈ gl_ := wg_ 567 (by decide +kernel) rfl
set_option maxRecDepth 100000 in
theorem ws_X3_startLine : Cond.selects RX3 yX3_startLine yX3_startLine ∈ gl_ := wg_ 576 (by decide +kernel) rfl
set_option maxRecDepth 100000 in
theorem ws_X3_step : Cond.selects RX3 yX3_step yX3_step ∈ gl_ := wg_ 496 (by decide +kernel) rfl
set_option maxRecDepth 100000 in
theorem ws_X4_areSmall : Cond.selects RX4 yX4_areSmall yX4_areSmall ∈ gl_ := wg_ 892 (by decide +kernel) rfl
set_option maxRecDepth 100000 in
theorem ws_X4_cut : Cond.selects RX4 yX4_cut yX4_cut ∈ gl_ := wg_ 1214 (by decide +kernel) rfl
set_option maxRecDepth 100000 in
theorem ws_X4_hasStretch : Cond.selects RX4 yX4_hasStretch yX4_hasStretch ∈ gl_ := wg_ 1222 (by decide +kernel) rfl
set_option maxRecDepth 100000 in
theorem ws_X4_renew : Cond.selects RX4 yX4_renew yX4_renew ∈ gl_ := wg_ 1203 (by decide +kernel) rfl
set_option maxRecDepth 100000 in
theorem ws_X5_cover : Cond.selects RX5 yX5_cover yX5_cover ∈ gl_ := wg_ 856 (by decide +kernel) rfl
set_option maxRecDepth 100000 in
theorem ws_X5_openDays : Cond.selects RX5 yX5_openDays yX5_openDays ∈ gl_ := wg_ 851 (by decide +kernel) rfl
set_option maxRecDepth 100000 in
theorem ws_X5_seek : Cond.selects RX5 yX5_seek yX5_seek ∈ gl_ := wg_ 845 (by decide +kernel) rfl
set_option maxRecDepth 100000 in
theorem ws_X6_fightersOnAll : Cond.selects RX6 yX6_fightersOnAll yX6_fightersOnAll ∈ gl_ := wg_ 961 (by decide +kernel) rfl
set_option maxRecDepth 100000 in
theorem ws_X6_fightersOnSome : Cond.selects RX6 yX6_fightersOnSome yX6_fightersOnSome ∈ gl_ := wg_ 965 (by decide +kernel) rfl
set_option maxRecDepth 100000 in
theorem ws_X6_fitsAll : Cond.selects RX6 yX6_fitsAll yX6_fitsAll ∈ gl_ := wg_ 948 (by decide +kernel) rfl
set_option maxRecDepth 100000 in
theorem ws_X6_gather : Cond.selects RX6 yX6_gather yX6_gather ∈ gl_ := wg_ 944 (by decide +kernel) rfl
set_option maxRecDepth 100000 in
theorem ws_X6_isTold : Cond.selects RX6 yX6_isTold yX6_isTold ∈ gl_ := wg_ 939 (by decide +kernel) rfl
set_option maxRecDepth 100000 in
theorem ws_X6_seekQuestion : Cond.selects RX6 yX6_seekQuestion yX6_seekQuestion ∈ gl_ := wg_ 973 (by decide +kernel) rfl
set_option maxRecDepth 100000 in
theorem ws_X6_tryQuestion : Cond.selects RX6 yX6_tryQuestion yX6_tryQuestion ∈ gl_ := wg_ 977 (by decide +kernel) rfl
set_option maxRecDepth 100000 in
theorem ws_X7_bestTake : Cond.selects RX7 yX7_bestTake yX7_bestTake ∈ gl_ := wg_ 1076 (by decide +kernel) rfl
set_option maxRecDepth 100000 in
theorem ws_X7_listTurns : Cond.selects RX7 yX7_listTurns yX7_listTurns ∈ gl_ := wg_ 1071 (by decide +kernel) rfl
set_option maxRecDepth 100000 in
theorem ws_X7_play : Cond.selects RX7 yX7_play yX7_play ∈ gl_ := wg_ 1067 (by decide +kernel) rfl
set_option maxRecDepth 100000 in
theorem ws_X7_winnerOf : Cond.selects RX7 yX7_winnerOf yX7_winnerOf ∈ gl_ := wg_ 1084 (by decide +kernel) rfl
set_option maxRecDepth 100000 in
theorem ws_X7_worth : Cond.selects RX7 yX7_worth yX7_worth ∈ gl_ := wg_ 1080 (by decide +kernel) rfl
set_option maxRecDepth 100000 in
theorem ws_X8_append : Cond.selects RX8 yX8_append yX8_append ∈ gl_ := wg_ 476 (by decide +kernel) rfl
set_option maxRecDepth 100000 in
theorem ws_X9_appendTruce : Cond.selects RX9 yX9_appendTruce yX9_appendTruce ∈ gl_ := wg_ 622 (by decide +kernel) rfl
set_option maxRecDepth 100000 in
theorem ws_X9_clear : Cond.selects RX9 yX9_clear yX9_clear ∈ gl_ := wg_ 492 (by decide +kernel) rfl
set_option maxRecDepth 100000 in
theorem ws_X9_copyOf : Cond.selects RX9 yX9_copyOf yX9_copyOf ∈ gl_ := wg_ 1186 (by decide +kernel) rfl
set_option maxRecDepth 100000 in
theorem ws_X9_dayOfDate : Cond.selects RX9 yX9_dayOfDate yX9_dayOfDate ∈ gl_ := wg_ 725 (by decide +kernel) rfl
set_option maxRecDepth 100000 in
theorem ws_X9_hasLand : Cond.selects RX9 yX9_hasLand yX9_hasLand ∈ gl_ := wg_ 638 (by decide +kernel) rfl
set_option maxRecDepth 100000 in
theorem ws_X9_hasMonth : Cond.selects RX9 yX9_hasMonth yX9_hasMonth ∈ gl_ := wg_ 646 (by decide +kernel) rfl
set_option maxRecDepth 100000 in
theorem ws_X9_hasPlainDate : Cond.selects RX9 yX9_hasPlainDate yX9_hasPlainDate ∈ gl_ := wg_ 1096 (by decide +kernel) rfl
set_option maxRecDepth 100000 in
theorem ws_X9_insertFeast : Cond.selects RX9 yX9_insertFeast yX9_insertFeast ∈ gl_ := wg_ 609 (by decide +kernel) rfl
set_option maxRecDepth 100000 in
theorem ws_X9_latestFeastOf : Cond.selects RX9 yX9_latestFeastOf yX9_latestFeastOf ∈ gl_ := wg_ 1126 (by decide +kernel) rfl
set_option maxRecDepth 100000 in
theorem ws_X9_noteChange : Cond.selects RX9 yX9_noteChange yX9_noteChange ∈ gl_ := wg_ 1105 (by decide +kernel) rfl
set_option maxRecDepth 100000 in
theorem ws_X9_noteEnded : Cond.selects RX9 yX9_noteEnded yX9_noteEnded ∈ gl_ := wg_ 1130 (by decide +kernel) rfl
set_option maxRecDepth 100000 in
theorem ws_X9_noteFounded : Cond.selects RX9 yX9_noteFounded yX9_noteFounded ∈ gl_ := wg_ 1101 (by decide +kernel) rfl
set_option maxRecDepth 100000 in
theorem ws_X9_noteGranted : Cond.selects RX9 yX9_noteGranted yX9_noteGranted ∈ gl_ := wg_ 1118 (by decide +kernel) rfl
set_option maxRecDepth 100000 in
theorem ws_X9_removeFeast : Cond.selects RX9 yX9_removeFeast yX9_removeFeast ∈ gl_ := wg_ 1134 (by decide +kernel) rfl
set_option maxRecDepth 100000 in
theorem ws_X9_takeBackLatest : Cond.selects RX9 yX9_takeBackLatest yX9_takeBackLatest ∈ gl_ := wg_ 1142 (by decide +kernel) rfl
set_option maxRecDepth 100000 in
theorem ws_X9_trucesOn : Cond.selects RX9 yX9_trucesOn yX9_trucesOn ∈ gl_ := wg_ 993 (by decide +kernel) rfl
set_option maxRecDepth 100000 in
theorem wt_J0_checkIndex_df160 : Cond.static yJ0_checkIndex_df160 ∈ gl_ := wg_ 530 (by decide +kernel) rfl
set_option maxRecDepth 100000 in
theorem wt_J1_charAt_3b067 : Cond.static yJ1_charAt_3b067 ∈ gl_ := wg_ 527 (by decide +kernel) rfl
set_option maxRecDepth 100000 in
theorem wt_J2_charAt_3b067 : Cond.static yJ2_charAt_3b067 ∈ gl_ := wg_ 538 (by decide +kernel) rfl
set_option maxRecDepth 100000 in
theorem wt_J2_checkIndex_2214a : Cond.static yJ2_checkIndex_2214a ∈ gl_ := wg_ 541 (by decide +kernel) rfl
set_option maxRecDepth 100000 in
theorem wt_J2_getChar_3b067 : Cond.static yJ2_getChar_3b067 ∈ gl_ := wg_ 548 (by decide +kernel) rfl
set_option maxRecDepth 100000 in
theorem wt_J2_length_9d52b : Cond.static yJ2_length_9d52b ∈ gl_ := wg_ 544 (by decide +kernel) rfl
set_option maxRecDepth 100000 in
theorem wt_J3_checkIndex_8e157 : Cond.static yJ3_checkIndex_8e157 ∈ gl_ := wg_ 535 (by decide +kernel) rfl
set_option maxRecDepth 100000 in
theorem wt_J7_fill_031fb : Cond.static yJ7_fill_031fb ∈ gl_ := wg_ 688 (by decide +kernel) rfl
set_option maxRecDepth 100000 in
theorem wt_J7_fill_53178 : Cond.static yJ7_fill_53178 ∈ gl_ := wg_ 980 (by decide +kernel) rfl
set_option maxRecDepth 100000 in
theorem wt_J7_fill_d0a16 : Cond.static yJ7_fill_d0a16 ∈ gl_ := wg_ 1206 (by decide +kernel) rfl
set_option maxRecDepth 100000 in
theorem wt_J9_max_7cf53 : Cond.static yJ9_max_7cf53 ∈ gl_ := wg_ 918 (by decide +kernel) rfl
set_option maxRecDepth 100000 in
theorem wt_J9_min_7cf53 : Cond.static yJ9_min_7cf53 ∈ gl_ := wg_ 859 (by decide +kernel) rfl
set_option maxRecDepth 100000 in
theorem wt_X10_commonDivisor : Cond.static yX10_commonDivisor ∈ gl_ := wg_ 793 (by decide +kernel) rfl
set_option maxRecDepth 100000 in
theorem wt_X10_isDay : Cond.static yX10_isDay ∈ gl_ := wg_ 677 (by decide +kernel) rfl
set_option maxRecDepth 100000 in
theorem wt_X10_isRain : Cond.static yX10_isRain ∈ gl_ := wg_ 1150 (by decide +kernel) rfl
set_option maxRecDepth 100000 in
theorem wt_X10_isSlot : Cond.static yX10_isSlot ∈ gl_ := wg_ 884 (by decide +kernel) rfl
set_option maxRecDepth 100000 in
theorem wt_X10_isSpan : Cond.static yX10_isSpan ∈ gl_ := wg_ 761 (by decide +kernel) rfl
set_option maxRecDepth 100000 in
theorem wt_X10_isWet : Cond.static yX10_isWet ∈ gl_ := wg_ 1160 (by decide +kernel) rfl
set_option maxRecDepth 100000 in
theorem wt_X10_isYear : Cond.static yX10_isYear ∈ gl_ := wg_ 650 (by decide +kernel) rfl
set_option maxRecDepth 100000 in
theorem wt_X10_nextDraw : Cond.static yX10_nextDraw ∈ gl_ := wg_ 1154 (by decide +kernel) rfl
set_option maxRecDepth 100000 in
theorem wt_X11_behind : Cond.static yX11_behind ∈ gl_ := wg_ 1871 (by decide +kernel) rfl
set_option maxRecDepth 100000 in
theorem wt_X11_bestTake : Cond.static yX11_bestTake ∈ gl_ := wg_ 1868 (by decide +kernel) rfl
set_option maxRecDepth 100000 in
theorem wt_X11_bit : Cond.static yX11_bit ∈ gl_ := wg_ 1536 (by decide +kernel) rfl
set_option maxRecDepth 100000 in
theorem wt_X11_cut : Cond.static yX11_cut ∈ gl_ := wg_ 1934 (by decide +kernel) rfl
set_option maxRecDepth 100000 in
theorem wt_X11_divisor : Cond.static yX11_divisor ∈ gl_ := wg_ 1626 (by decide +kernel) rfl
set_option maxRecDepth 100000 in
theorem wt_X11_in : Cond.static yX11_in ∈ gl_ := wg_ 1354 (by decide +kernel) rfl
set_option maxRecDepth 100000 in
theorem wt_X11_isDay : Cond.static yX11_isDay ∈ gl_ := wg_ 1514 (by decide +kernel) rfl
set_option maxRecDepth 100000 in
theorem wt_X11_isSeed : Cond.static yX11_isSeed ∈ gl_ := wg_ 1905 (by decide +kernel) rfl
set_option maxRecDepth 100000 in
theorem wt_X11_isSlot : Cond.static yX11_isSlot ∈ gl_ := wg_ 1702 (by decide +kernel) rfl
set_option maxRecDepth 100000 in
theorem wt_X11_isSpan : Cond.static yX11_isSpan ∈ gl_ := wg_ 1603 (by decide +kernel) rfl
set_option maxRecDepth 100000 in
theorem wt_X11_isYear : Cond.static yX11_isYear ∈ gl_ := wg_ 1485 (by decide +kernel) rfl
set_option maxRecDepth 100000 in
theorem wt_X11_rank : Cond.static yX11_rank ∈ gl_ := wg_ 1874 (by decide +kernel) rfl
set_option maxRecDepth 100000 in
theorem wt_X11_spot : Cond.static yX11_spot ∈ gl_ := wg_ 1525 (by decide +kernel) rfl
set_option maxRecDepth 100000 in
theorem wt_X11_turn : Cond.static yX11_turn ∈ gl_ := wg_ 1865 (by decide +kernel) rfl
set_option maxRecDepth 100000 in
theorem wa_X1_40 : Cond.methodLink RX1 40 arraycopyName ∈ gl_ ∧ Cond.native arraycopyName ∈ gl_ ∧ Cond.static arraycopyName ∈ gl_ ∧ Cond.initialized "java/lang/System" ∈ gl_ := ⟨wg_ 1192 (by decide +kernel) rfl, wg_ 613 (by decide +kernel) rfl, wg_ 612 (by decide +kernel) rfl, wg_ 94 (by decide +kernel) rfl⟩
set_option maxRecDepth 100000 in
theorem wa_X9_51 : Cond.methodLink RX9 51 arraycopyName ∈ gl_ ∧ Cond.native arraycopyName ∈ gl_ ∧ Cond.static arraycopyName ∈ gl_ ∧ Cond.initialized "java/lang/System" ∈ gl_ := ⟨wg_ 611 (by decide +kernel) rfl, wg_ 613 (by decide +kernel) rfl, wg_ 612 (by decide +kernel) rfl, wg_ 94 (by decide +kernel) rfl⟩
set_option maxRecDepth 100000 in
theorem wa_X10_423 : Cond.methodLink RX10 423 arraycopyName ∈ gl_ ∧ Cond.native arraycopyName ∈ gl_ ∧ Cond.static arraycopyName ∈ gl_ ∧ Cond.initialized "java/lang/System" ∈ gl_ := ⟨wg_ 1224 (by decide +kernel) rfl, wg_ 613 (by decide +kernel) rfl, wg_ 612 (by decide +kernel) rfl, wg_ 94 (by decide +kernel) rfl⟩
