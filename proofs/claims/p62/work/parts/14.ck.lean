set_option maxRecDepth 1000000 in
theorem oX0_init : ck_ knX0 kX0_init = true := by decide +kernel
set_option maxRecDepth 1000000 in
theorem oX0_forgetAll : ck_ knX0 kX0_forgetAll = true := by decide +kernel
set_option maxRecDepth 1000000 in
theorem oX0_forgetReasons : ck_ knX0 kX0_forgetReasons = true := by decide +kernel
set_option maxRecDepth 1000000 in
theorem oX0_bringUpToDate : ck_ knX0 kX0_bringUpToDate = true := by decide +kernel
set_option maxRecDepth 1000000 in
theorem oX0_fillDates : ck_ knX0 kX0_fillDates = true := by decide +kernel
set_option maxRecDepth 1000000 in
theorem oX0_fillReasons : ck_ knX0 kX0_fillReasons = true := by decide +kernel
set_option maxRecDepth 1000000 in
theorem oX0_markFeast : ck_ knX0 kX0_markFeast = true := by decide +kernel
set_option maxRecDepth 1000000 in
theorem oX0_markReason : ck_ knX0 kX0_markReason = true := by decide +kernel
set_option maxRecDepth 1000000 in
theorem oX0_fillFighters : ck_ knX0 kX0_fillFighters = true := by decide +kernel
set_option maxRecDepth 1000000 in
theorem oX0_reason : ck_ knX0 kX0_reason = true := by decide +kernel
set_option maxRecDepth 1000000 in
theorem oX0_part : ck_ knX0 kX0_part = true := by decide +kernel
set_option maxRecDepth 1000000 in
theorem oX0_monthDay : ck_ knX0 kX0_monthDay = true := by decide +kernel
set_option maxRecDepth 1000000 in
theorem oX0_allFight : ck_ knX0 kX0_allFight = true := by decide +kernel
set_option maxRecDepth 1000000 in
theorem oX0_fightingDays : ck_ knX0 kX0_fightingDays = true := by decide +kernel
set_option maxRecDepth 1000000 in
theorem oX0_seekWait : ck_ knX0 kX0_seekWait = true := by decide +kernel
set_option maxRecDepth 1000000 in
theorem oX0_ageBy : ck_ knX0 kX0_ageBy = true := by decide +kernel
set_option maxRecDepth 1000000 in
theorem oX0_clashDay : ck_ knX0 kX0_clashDay = true := by decide +kernel
set_option maxRecDepth 1000000 in
theorem oX0_aloneOn : ck_ knX0 kX0_aloneOn = true := by decide +kernel
set_option maxRecDepth 1000000 in
theorem oX0_daysAlone : ck_ knX0 kX0_daysAlone = true := by decide +kernel
set_option maxRecDepth 1000000 in
theorem oX0_seekBeginning : ck_ knX0 kX0_seekBeginning = true := by decide +kernel
set_option maxRecDepth 1000000 in
theorem oX1_init : ck_ knX1 kX1_init = true := by decide +kernel
set_option maxRecDepth 1000000 in
theorem oX1_clear : ck_ knX1 kX1_clear = true := by decide +kernel
set_option maxRecDepth 1000000 in
theorem oX1_copyOf : ck_ knX1 kX1_copyOf = true := by decide +kernel
set_option maxRecDepth 1000000 in
theorem oX1_appendMonth : ck_ knX1 kX1_appendMonth = true := by decide +kernel
set_option maxRecDepth 1000000 in
theorem oX1_hasWeekday : ck_ knX1 kX1_hasWeekday = true := by decide +kernel
set_option maxRecDepth 1000000 in
theorem oX1_isLeapYear : ck_ knX1 kX1_isLeapYear = true := by decide +kernel
set_option maxRecDepth 1000000 in
theorem oX1_lengthIn : ck_ knX1 kX1_lengthIn = true := by decide +kernel
set_option maxRecDepth 1000000 in
theorem oX1_leapCycle : ck_ knX1 kX1_leapCycle = true := by decide +kernel
set_option maxRecDepth 1000000 in
theorem oX1_dayOn : ck_ knX1 kX1_dayOn = true := by decide +kernel
set_option maxRecDepth 1000000 in
theorem oX2_init : ck_ knX2 kX2_init = true := by decide +kernel
set_option maxRecDepth 1000000 in
theorem oX2_read : ck_ knX2 kX2_read = true := by decide +kernel
set_option maxRecDepth 1000000 in
theorem oX2_placeOfOldest : ck_ knX2 kX2_placeOfOldest = true := by decide +kernel
set_option maxRecDepth 1000000 in
theorem oX2_earlierThan : ck_ knX2 kX2_earlierThan = true := by decide +kernel
set_option maxRecDepth 1000000 in
theorem oX2_daysApart : ck_ knX2 kX2_daysApart = true := by decide +kernel
set_option maxRecDepth 1000000 in
theorem oX2_datedAtRest : ck_ knX2 kX2_datedAtRest = true := by decide +kernel
set_option maxRecDepth 1000000 in
theorem oX3_init : ck_ knX3 kX3_init = true := by decide +kernel
set_option maxRecDepth 1000000 in
theorem oX3_read : ck_ knX3 kX3_read = true := by decide +kernel
set_option maxRecDepth 1000000 in
theorem oX3_readLine : ck_ knX3 kX3_readLine = true := by decide +kernel
set_option maxRecDepth 1000000 in
theorem oX3_startLine : ck_ knX3 kX3_startLine = true := by decide +kernel
set_option maxRecDepth 1000000 in
theorem oX3_readRain : ck_ knX3 kX3_readRain = true := by decide +kernel
set_option maxRecDepth 1000000 in
theorem oX3_readLand : ck_ knX3 kX3_readLand = true := by decide +kernel
set_option maxRecDepth 1000000 in
theorem oX3_readMonths : ck_ knX3 kX3_readMonths = true := by decide +kernel
set_option maxRecDepth 1000000 in
theorem oX3_readFeast : ck_ knX3 kX3_readFeast = true := by decide +kernel
set_option maxRecDepth 1000000 in
theorem oX3_readTruce : ck_ knX3 kX3_readTruce = true := by decide +kernel
set_option maxRecDepth 1000000 in
theorem oX3_needWord : ck_ knX3 kX3_needWord = true := by decide +kernel
set_option maxRecDepth 1000000 in
theorem oX3_needNumber : ck_ knX3 kX3_needNumber = true := by decide +kernel
set_option maxRecDepth 1000000 in
theorem oX3_refuse : ck_ knX3 kX3_refuse = true := by decide +kernel
set_option maxRecDepth 1000000 in
theorem oX3_isWord : ck_ knX3 kX3_isWord = true := by decide +kernel
set_option maxRecDepth 1000000 in
theorem oX3_step : ck_ knX3 kX3_step = true := by decide +kernel
set_option maxRecDepth 1000000 in
theorem oX4_init : ck_ knX4 kX4_init = true := by decide +kernel
set_option maxRecDepth 1000000 in
theorem oX4_renew : ck_ knX4 kX4_renew = true := by decide +kernel
set_option maxRecDepth 1000000 in
theorem oX4_cut : ck_ knX4 kX4_cut = true := by decide +kernel
set_option maxRecDepth 1000000 in
theorem oX4_hasStretch : ck_ knX4 kX4_hasStretch = true := by decide +kernel
set_option maxRecDepth 1000000 in
theorem oX4_areSmall : ck_ knX4 kX4_areSmall = true := by decide +kernel
set_option maxRecDepth 1000000 in
theorem oX5_init : ck_ knX5 kX5_init = true := by decide +kernel
set_option maxRecDepth 1000000 in
theorem oX5_seek : ck_ knX5 kX5_seek = true := by decide +kernel
set_option maxRecDepth 1000000 in
theorem oX5_openDays : ck_ knX5 kX5_openDays = true := by decide +kernel
set_option maxRecDepth 1000000 in
theorem oX5_cover : ck_ knX5 kX5_cover = true := by decide +kernel
set_option maxRecDepth 1000000 in
theorem oX6_init : ck_ knX6 kX6_init = true := by decide +kernel
set_option maxRecDepth 1000000 in
theorem oX6_isTold : ck_ knX6 kX6_isTold = true := by decide +kernel
set_option maxRecDepth 1000000 in
theorem oX6_gather : ck_ knX6 kX6_gather = true := by decide +kernel
set_option maxRecDepth 1000000 in
theorem oX6_fitsAll : ck_ knX6 kX6_fitsAll = true := by decide +kernel
set_option maxRecDepth 1000000 in
theorem oX6_fightersOnAll : ck_ knX6 kX6_fightersOnAll = true := by decide +kernel
set_option maxRecDepth 1000000 in
theorem oX6_fightersOnSome : ck_ knX6 kX6_fightersOnSome = true := by decide +kernel
set_option maxRecDepth 1000000 in
theorem oX6_seekQuestion : ck_ knX6 kX6_seekQuestion = true := by decide +kernel
set_option maxRecDepth 1000000 in
theorem oX6_tryQuestion : ck_ knX6 kX6_tryQuestion = true := by decide +kernel
set_option maxRecDepth 1000000 in
theorem oX7_init : ck_ knX7 kX7_init = true := by decide +kernel
set_option maxRecDepth 1000000 in
theorem oX7_play : ck_ knX7 kX7_play = true := by decide +kernel
set_option maxRecDepth 1000000 in
theorem oX7_listTurns : ck_ knX7 kX7_listTurns = true := by decide +kernel
set_option maxRecDepth 1000000 in
theorem oX7_bestTake : ck_ knX7 kX7_bestTake = true := by decide +kernel
set_option maxRecDepth 1000000 in
theorem oX7_worth : ck_ knX7 kX7_worth = true := by decide +kernel
set_option maxRecDepth 1000000 in
theorem oX7_winnerOf : ck_ knX7 kX7_winnerOf = true := by decide +kernel
set_option maxRecDepth 1000000 in
theorem oX8_init : ck_ knX8 kX8_init = true := by decide +kernel
set_option maxRecDepth 1000000 in
theorem oX8_append : ck_ knX8 kX8_append = true := by decide +kernel
set_option maxRecDepth 1000000 in
theorem oX9_init : ck_ knX9 kX9_init = true := by decide +kernel
set_option maxRecDepth 1000000 in
theorem oX9_clear : ck_ knX9 kX9_clear = true := by decide +kernel
set_option maxRecDepth 1000000 in
theorem oX9_copyOf : ck_ knX9 kX9_copyOf = true := by decide +kernel
set_option maxRecDepth 1000000 in
theorem oX9_hasLand : ck_ knX9 kX9_hasLand = true := by decide +kernel
set_option maxRecDepth 1000000 in
theorem oX9_hasMonth : ck_ knX9 kX9_hasMonth = true := by decide +kernel
set_option maxRecDepth 1000000 in
theorem oX9_hasPlainDate : ck_ knX9 kX9_hasPlainDate = true := by decide +kernel
set_option maxRecDepth 1000000 in
theorem oX9_dayOfDate : ck_ knX9 kX9_dayOfDate = true := by decide +kernel
set_option maxRecDepth 1000000 in
theorem oX9_insertFeast : ck_ knX9 kX9_insertFeast = true := by decide +kernel
set_option maxRecDepth 1000000 in
theorem oX9_removeFeast : ck_ knX9 kX9_removeFeast = true := by decide +kernel
set_option maxRecDepth 1000000 in
theorem oX9_latestFeastOf : ck_ knX9 kX9_latestFeastOf = true := by decide +kernel
set_option maxRecDepth 1000000 in
theorem oX9_appendTruce : ck_ knX9 kX9_appendTruce = true := by decide +kernel
set_option maxRecDepth 1000000 in
theorem oX9_trucesOn : ck_ knX9 kX9_trucesOn = true := by decide +kernel
set_option maxRecDepth 1000000 in
theorem oX9_noteFounded : ck_ knX9 kX9_noteFounded = true := by decide +kernel
set_option maxRecDepth 1000000 in
theorem oX9_noteGranted : ck_ knX9 kX9_noteGranted = true := by decide +kernel
set_option maxRecDepth 1000000 in
theorem oX9_noteEnded : ck_ knX9 kX9_noteEnded = true := by decide +kernel
set_option maxRecDepth 1000000 in
theorem oX9_noteChange : ck_ knX9 kX9_noteChange = true := by decide +kernel
set_option maxRecDepth 1000000 in
theorem oX9_takeBackLatest : ck_ knX9 kX9_takeBackLatest = true := by decide +kernel
set_option maxRecDepth 1000000 in
theorem oX10_init : ck_ knX10 kX10_init = true := by decide +kernel
set_option maxRecDepth 1000000 in
theorem oX10_feed : ck_ knX10 kX10_feed = true := by decide +kernel
set_option maxRecDepth 1000000 in
theorem oX10_end : ck_ knX10 kX10_end = true := by decide +kernel
set_option maxRecDepth 1000000 in
theorem oX10_war : ck_ knX10 kX10_war = true := by decide +kernel
set_option maxRecDepth 1000000 in
theorem oX10_fault : ck_ knX10 kX10_fault = true := by decide +kernel
set_option maxRecDepth 1000000 in
theorem oX10_land : ck_ knX10 kX10_land = true := by decide +kernel
set_option maxRecDepth 1000000 in
theorem oX10_month : ck_ knX10 kX10_month = true := by decide +kernel
set_option maxRecDepth 1000000 in
theorem oX10_feast : ck_ knX10 kX10_feast = true := by decide +kernel
set_option maxRecDepth 1000000 in
theorem oX10_truce : ck_ knX10 kX10_truce = true := by decide +kernel
set_option maxRecDepth 1000000 in
theorem oX10_date : ck_ knX10 kX10_date = true := by decide +kernel
set_option maxRecDepth 1000000 in
theorem oX10_day : ck_ knX10 kX10_day = true := by decide +kernel
set_option maxRecDepth 1000000 in
theorem oX10_may : ck_ knX10 kX10_may = true := by decide +kernel
set_option maxRecDepth 1000000 in
theorem oX10_why : ck_ knX10 kX10_why = true := by decide +kernel
set_option maxRecDepth 1000000 in
theorem oX10_who : ck_ knX10 kX10_who = true := by decide +kernel
set_option maxRecDepth 1000000 in
theorem oX10_next : ck_ knX10 kX10_next = true := by decide +kernel
set_option maxRecDepth 1000000 in
theorem oX10_many : ck_ knX10 kX10_many = true := by decide +kernel
set_option maxRecDepth 1000000 in
theorem oX10_waits : ck_ knX10 kX10_waits = true := by decide +kernel
set_option maxRecDepth 1000000 in
theorem oX10_waiting : ck_ knX10 kX10_waiting = true := by decide +kernel
set_option maxRecDepth 1000000 in
theorem oX10_share : ck_ knX10 kX10_share = true := by decide +kernel
set_option maxRecDepth 1000000 in
theorem oX10_meets : ck_ knX10 kX10_meets = true := by decide +kernel
set_option maxRecDepth 1000000 in
theorem oX10_period : ck_ knX10 kX10_period = true := by decide +kernel
set_option maxRecDepth 1000000 in
theorem oX10_alike : ck_ knX10 kX10_alike = true := by decide +kernel
set_option maxRecDepth 1000000 in
theorem oX10_years : ck_ knX10 kX10_years = true := by decide +kernel
set_option maxRecDepth 1000000 in
theorem oX10_comes : ck_ knX10 kX10_comes = true := by decide +kernel
set_option maxRecDepth 1000000 in
theorem oX10_saints : ck_ knX10 kX10_saints = true := by decide +kernel
set_option maxRecDepth 1000000 in
theorem oX10_founded : ck_ knX10 kX10_founded = true := by decide +kernel
set_option maxRecDepth 1000000 in
theorem oX10_bridge : ck_ knX10 kX10_bridge = true := by decide +kernel
set_option maxRecDepth 1000000 in
theorem oX10_bridged : ck_ knX10 kX10_bridged = true := by decide +kernel
set_option maxRecDepth 1000000 in
theorem oX10_oldest : ck_ knX10 kX10_oldest = true := by decide +kernel
set_option maxRecDepth 1000000 in
theorem oX10_older : ck_ knX10 kX10_older = true := by decide +kernel
set_option maxRecDepth 1000000 in
theorem oX10_apart : ck_ knX10 kX10_apart = true := by decide +kernel
set_option maxRecDepth 1000000 in
theorem oX10_idle : ck_ knX10 kX10_idle = true := by decide +kernel
set_option maxRecDepth 1000000 in
theorem oX10_fits : ck_ knX10 kX10_fits = true := by decide +kernel
set_option maxRecDepth 1000000 in
theorem oX10_fit : ck_ knX10 kX10_fit = true := by decide +kernel
set_option maxRecDepth 1000000 in
theorem oX10_sure : ck_ knX10 kX10_sure = true := by decide +kernel
set_option maxRecDepth 1000000 in
theorem oX10_ask : ck_ knX10 kX10_ask = true := by decide +kernel
set_option maxRecDepth 1000000 in
theorem oX10_leaves : ck_ knX10 kX10_leaves = true := by decide +kernel
set_option maxRecDepth 1000000 in
theorem oX10_holds : ck_ knX10 kX10_holds = true := by decide +kernel
set_option maxRecDepth 1000000 in
theorem oX10_overlap : ck_ knX10 kX10_overlap = true := by decide +kernel
set_option maxRecDepth 1000000 in
theorem oX10_most : ck_ knX10 kX10_most = true := by decide +kernel
set_option maxRecDepth 1000000 in
theorem oX10_age : ck_ knX10 kX10_age = true := by decide +kernel
set_option maxRecDepth 1000000 in
theorem oX10_gains : ck_ knX10 kX10_gains = true := by decide +kernel
set_option maxRecDepth 1000000 in
theorem oX10_march : ck_ knX10 kX10_march = true := by decide +kernel
set_option maxRecDepth 1000000 in
theorem oX10_clash : ck_ knX10 kX10_clash = true := by decide +kernel
set_option maxRecDepth 1000000 in
theorem oX10_place : ck_ knX10 kX10_place = true := by decide +kernel
set_option maxRecDepth 1000000 in
theorem oX10_alone : ck_ knX10 kX10_alone = true := by decide +kernel
set_option maxRecDepth 1000000 in
theorem oX10_begin : ck_ knX10 kX10_begin = true := by decide +kernel
set_option maxRecDepth 1000000 in
theorem oX10_begins : ck_ knX10 kX10_begins = true := by decide +kernel
set_option maxRecDepth 1000000 in
theorem oX10_game : ck_ knX10 kX10_game = true := by decide +kernel
set_option maxRecDepth 1000000 in
theorem oX10_takes : ck_ knX10 kX10_takes = true := by decide +kernel
set_option maxRecDepth 1000000 in
theorem oX10_found : ck_ knX10 kX10_found = true := by decide +kernel
set_option maxRecDepth 1000000 in
theorem oX10_grant : ck_ knX10 kX10_grant = true := by decide +kernel
set_option maxRecDepth 1000000 in
theorem oX10_ends : ck_ knX10 kX10_ends = true := by decide +kernel
set_option maxRecDepth 1000000 in
theorem oX10_undo : ck_ knX10 kX10_undo = true := by decide +kernel
set_option maxRecDepth 1000000 in
theorem oX10_drawn : ck_ knX10 kX10_drawn = true := by decide +kernel
set_option maxRecDepth 1000000 in
theorem oX10_luck : ck_ knX10 kX10_luck = true := by decide +kernel
set_option maxRecDepth 1000000 in
theorem oX10_count : ck_ knX10 kX10_count = true := by decide +kernel
set_option maxRecDepth 1000000 in
theorem oX10_image : ck_ knX10 kX10_image = true := by decide +kernel
set_option maxRecDepth 1000000 in
theorem oX10_back : ck_ knX10 kX10_back = true := by decide +kernel
set_option maxRecDepth 1000000 in
theorem oX10_row : ck_ knX10 kX10_row = true := by decide +kernel
set_option maxRecDepth 1000000 in
theorem oX10_write : ck_ knX10 kX10_write = true := by decide +kernel
set_option maxRecDepth 1000000 in
theorem oX10_paste : ck_ knX10 kX10_paste = true := by decide +kernel
set_option maxRecDepth 1000000 in
theorem oX10_isDay : ck_ knX10 kX10_isDay = true := by decide +kernel
set_option maxRecDepth 1000000 in
theorem oX10_isYear : ck_ knX10 kX10_isYear = true := by decide +kernel
set_option maxRecDepth 1000000 in
theorem oX10_isSpan : ck_ knX10 kX10_isSpan = true := by decide +kernel
set_option maxRecDepth 1000000 in
theorem oX10_isSlot : ck_ knX10 kX10_isSlot = true := by decide +kernel
set_option maxRecDepth 1000000 in
theorem oX10_isRain : ck_ knX10 kX10_isRain = true := by decide +kernel
set_option maxRecDepth 1000000 in
theorem oX10_isDayOfWar : ck_ knX10 kX10_isDayOfWar = true := by decide +kernel
set_option maxRecDepth 1000000 in
theorem oX10_isLandAndDay : ck_ knX10 kX10_isLandAndDay = true := by decide +kernel
set_option maxRecDepth 1000000 in
theorem oX10_isPair : ck_ knX10 kX10_isPair = true := by decide +kernel
set_option maxRecDepth 1000000 in
theorem oX10_isPairAndDay : ck_ knX10 kX10_isPairAndDay = true := by decide +kernel
set_option maxRecDepth 1000000 in
theorem oX10_isSetInSpan : ck_ knX10 kX10_isSetInSpan = true := by decide +kernel
set_option maxRecDepth 1000000 in
theorem oX10_isSaintly : ck_ knX10 kX10_isSaintly = true := by decide +kernel
set_option maxRecDepth 1000000 in
theorem oX10_commonDivisor : ck_ knX10 kX10_commonDivisor = true := by decide +kernel
set_option maxRecDepth 1000000 in
theorem oX10_nextDraw : ck_ knX10 kX10_nextDraw = true := by decide +kernel
set_option maxRecDepth 1000000 in
theorem oX10_isWet : ck_ knX10 kX10_isWet = true := by decide +kernel
set_option maxRecDepth 1000000 in
theorem oX10_fightsInRain : ck_ knX10 kX10_fightsInRain = true := by decide +kernel
set_option maxRecDepth 1000000 in
theorem oX10_told : ck_ knX10 kX10_told = true := by decide +kernel
set_option maxRecDepth 1000000 in
theorem oX10_slotsWithRow : ck_ knX10 kX10_slotsWithRow = true := by decide +kernel
set_option maxRecDepth 1000000 in
theorem oX10_readOrders : ck_ knX10 kX10_readOrders = true := by decide +kernel
set_option maxRecDepth 1000000 in
theorem oX10_readSights : ck_ knX10 kX10_readSights = true := by decide +kernel
set_option maxRecDepth 1000000 in
theorem oX11_init : ck_ knX11 kX11_init = true := by decide +kernel
set_option maxRecDepth 1000000 in
theorem oX11_in : ck_ knX11 kX11_in = true := by decide +kernel
set_option maxRecDepth 1000000 in
theorem oX11_bit : ck_ knX11 kX11_bit = true := by decide +kernel
set_option maxRecDepth 1000000 in
theorem oX11_image : ck_ knX11 kX11_image = true := by decide +kernel
set_option maxRecDepth 1000000 in
theorem oX11_back : ck_ knX11 kX11_back = true := by decide +kernel
set_option maxRecDepth 1000000 in
theorem oX11_isWar : ck_ knX11 kX11_isWar = true := by decide +kernel
set_option maxRecDepth 1000000 in
theorem oX11_isLand : ck_ knX11 kX11_isLand = true := by decide +kernel
set_option maxRecDepth 1000000 in
theorem oX11_areTwo : ck_ knX11 kX11_areTwo = true := by decide +kernel
set_option maxRecDepth 1000000 in
theorem oX11_isDay : ck_ knX11 kX11_isDay = true := by decide +kernel
set_option maxRecDepth 1000000 in
theorem oX11_isYear : ck_ knX11 kX11_isYear = true := by decide +kernel
set_option maxRecDepth 1000000 in
theorem oX11_isSpan : ck_ knX11 kX11_isSpan = true := by decide +kernel
set_option maxRecDepth 1000000 in
theorem oX11_allLands : ck_ knX11 kX11_allLands = true := by decide +kernel
set_option maxRecDepth 1000000 in
theorem oX11_isSet : ck_ knX11 kX11_isSet = true := by decide +kernel
set_option maxRecDepth 1000000 in
theorem oX11_of : ck_ knX11 kX11_of = true := by decide +kernel
set_option maxRecDepth 1000000 in
theorem oX11_isMonth : ck_ knX11 kX11_isMonth = true := by decide +kernel
set_option maxRecDepth 1000000 in
theorem oX11_lengthOf : ck_ knX11 kX11_lengthOf = true := by decide +kernel
set_option maxRecDepth 1000000 in
theorem oX11_yearLength : ck_ knX11 kX11_yearLength = true := by decide +kernel
set_option maxRecDepth 1000000 in
theorem oX11_ofFeast : ck_ knX11 kX11_ofFeast = true := by decide +kernel
set_option maxRecDepth 1000000 in
theorem oX11_ofTruce : ck_ knX11 kX11_ofTruce = true := by decide +kernel
set_option maxRecDepth 1000000 in
theorem oX11_feed : ck_ knX11 kX11_feed = true := by decide +kernel
set_option maxRecDepth 1000000 in
theorem oX11_end : ck_ knX11 kX11_end = true := by decide +kernel
set_option maxRecDepth 1000000 in
theorem oX11_see : ck_ knX11 kX11_see = true := by decide +kernel
set_option maxRecDepth 1000000 in
theorem oX11_advance : ck_ knX11 kX11_advance = true := by decide +kernel
set_option maxRecDepth 1000000 in
theorem oX11_good : ck_ knX11 kX11_good = true := by decide +kernel
set_option maxRecDepth 1000000 in
theorem oX11_errs : ck_ knX11 kX11_errs = true := by decide +kernel
set_option maxRecDepth 1000000 in
theorem oX11_is : ck_ knX11 kX11_is = true := by decide +kernel
set_option maxRecDepth 1000000 in
theorem oX11_takes : ck_ knX11 kX11_takes = true := by decide +kernel
set_option maxRecDepth 1000000 in
theorem oX11_needs : ck_ knX11 kX11_needs = true := by decide +kernel
set_option maxRecDepth 1000000 in
theorem oX11_number : ck_ knX11 kX11_number = true := by decide +kernel
set_option maxRecDepth 1000000 in
theorem oX11_told : ck_ knX11 kX11_told = true := by decide +kernel
set_option maxRecDepth 1000000 in
theorem oX11_fault : ck_ knX11 kX11_fault = true := by decide +kernel
set_option maxRecDepth 1000000 in
theorem oX11_readMonths : ck_ knX11 kX11_readMonths = true := by decide +kernel
set_option maxRecDepth 1000000 in
theorem oX11_readLand : ck_ knX11 kX11_readLand = true := by decide +kernel
set_option maxRecDepth 1000000 in
theorem oX11_freshLand : ck_ knX11 kX11_freshLand = true := by decide +kernel
set_option maxRecDepth 1000000 in
theorem oX11_readFeast : ck_ knX11 kX11_readFeast = true := by decide +kernel
set_option maxRecDepth 1000000 in
theorem oX11_readTruce : ck_ knX11 kX11_readTruce = true := by decide +kernel
set_option maxRecDepth 1000000 in
theorem oX11_readNext : ck_ knX11 kX11_readNext = true := by decide +kernel
set_option maxRecDepth 1000000 in
theorem oX11_readLine : ck_ knX11 kX11_readLine = true := by decide +kernel
set_option maxRecDepth 1000000 in
theorem oX11_war : ck_ knX11 kX11_war = true := by decide +kernel
set_option maxRecDepth 1000000 in
theorem oX11_spot : ck_ knX11 kX11_spot = true := by decide +kernel
set_option maxRecDepth 1000000 in
theorem oX11_layDates : ck_ knX11 kX11_layDates = true := by decide +kernel
set_option maxRecDepth 1000000 in
theorem oX11_weekday : ck_ knX11 kX11_weekday = true := by decide +kernel
set_option maxRecDepth 1000000 in
theorem oX11_layWhy : ck_ knX11 kX11_layWhy = true := by decide +kernel
set_option maxRecDepth 1000000 in
theorem oX11_lay : ck_ knX11 kX11_lay = true := by decide +kernel
set_option maxRecDepth 1000000 in
theorem oX11_mayOn : ck_ knX11 kX11_mayOn = true := by decide +kernel
set_option maxRecDepth 1000000 in
theorem oX11_whoOn : ck_ knX11 kX11_whoOn = true := by decide +kernel
set_option maxRecDepth 1000000 in
theorem oX11_land : ck_ knX11 kX11_land = true := by decide +kernel
set_option maxRecDepth 1000000 in
theorem oX11_month : ck_ knX11 kX11_month = true := by decide +kernel
set_option maxRecDepth 1000000 in
theorem oX11_feast : ck_ knX11 kX11_feast = true := by decide +kernel
set_option maxRecDepth 1000000 in
theorem oX11_truce : ck_ knX11 kX11_truce = true := by decide +kernel
set_option maxRecDepth 1000000 in
theorem oX11_dateOf : ck_ knX11 kX11_dateOf = true := by decide +kernel
set_option maxRecDepth 1000000 in
theorem oX11_date : ck_ knX11 kX11_date = true := by decide +kernel
set_option maxRecDepth 1000000 in
theorem oX11_isDate : ck_ knX11 kX11_isDate = true := by decide +kernel
set_option maxRecDepth 1000000 in
theorem oX11_dayBy : ck_ knX11 kX11_dayBy = true := by decide +kernel
set_option maxRecDepth 1000000 in
theorem oX11_day : ck_ knX11 kX11_day = true := by decide +kernel
set_option maxRecDepth 1000000 in
theorem oX11_may : ck_ knX11 kX11_may = true := by decide +kernel
set_option maxRecDepth 1000000 in
theorem oX11_why : ck_ knX11 kX11_why = true := by decide +kernel
set_option maxRecDepth 1000000 in
theorem oX11_who : ck_ knX11 kX11_who = true := by decide +kernel
set_option maxRecDepth 1000000 in
theorem oX11_mayAll : ck_ knX11 kX11_mayAll = true := by decide +kernel
set_option maxRecDepth 1000000 in
theorem oX11_next : ck_ knX11 kX11_next = true := by decide +kernel
set_option maxRecDepth 1000000 in
theorem oX11_manyOf : ck_ knX11 kX11_manyOf = true := by decide +kernel
set_option maxRecDepth 1000000 in
theorem oX11_many : ck_ knX11 kX11_many = true := by decide +kernel
set_option maxRecDepth 1000000 in
theorem oX11_findWait : ck_ knX11 kX11_findWait = true := by decide +kernel
set_option maxRecDepth 1000000 in
theorem oX11_waits : ck_ knX11 kX11_waits = true := by decide +kernel
set_option maxRecDepth 1000000 in
theorem oX11_waiting : ck_ knX11 kX11_waiting = true := by decide +kernel
set_option maxRecDepth 1000000 in
theorem oX11_divisor : ck_ knX11 kX11_divisor = true := by decide +kernel
set_option maxRecDepth 1000000 in
theorem oX11_share : ck_ knX11 kX11_share = true := by decide +kernel
set_option maxRecDepth 1000000 in
theorem oX11_isWeekday : ck_ knX11 kX11_isWeekday = true := by decide +kernel
set_option maxRecDepth 1000000 in
theorem oX11_meets : ck_ knX11 kX11_meets = true := by decide +kernel
set_option maxRecDepth 1000000 in
theorem oX11_period : ck_ knX11 kX11_period = true := by decide +kernel
set_option maxRecDepth 1000000 in
theorem oX11_isCounted : ck_ knX11 kX11_isCounted = true := by decide +kernel
set_option maxRecDepth 1000000 in
theorem oX11_alike : ck_ knX11 kX11_alike = true := by decide +kernel
set_option maxRecDepth 1000000 in
theorem oX11_years : ck_ knX11 kX11_years = true := by decide +kernel
set_option maxRecDepth 1000000 in
theorem oX11_comes : ck_ knX11 kX11_comes = true := by decide +kernel
set_option maxRecDepth 1000000 in
theorem oX11_findSaints : ck_ knX11 kX11_findSaints = true := by decide +kernel
set_option maxRecDepth 1000000 in
theorem oX11_areSaints : ck_ knX11 kX11_areSaints = true := by decide +kernel
set_option maxRecDepth 1000000 in
theorem oX11_saints : ck_ knX11 kX11_saints = true := by decide +kernel
set_option maxRecDepth 1000000 in
theorem oX11_founded : ck_ knX11 kX11_founded = true := by decide +kernel
set_option maxRecDepth 1000000 in
theorem oX11_findBridge : ck_ knX11 kX11_findBridge = true := by decide +kernel
set_option maxRecDepth 1000000 in
theorem oX11_bridge : ck_ knX11 kX11_bridge = true := by decide +kernel
set_option maxRecDepth 1000000 in
theorem oX11_bridged : ck_ knX11 kX11_bridged = true := by decide +kernel
set_option maxRecDepth 1000000 in
theorem oX11_numberAt : ck_ knX11 kX11_numberAt = true := by decide +kernel
set_option maxRecDepth 1000000 in
theorem oX11_intAt : ck_ knX11 kX11_intAt = true := by decide +kernel
set_option maxRecDepth 1000000 in
theorem oX11_dayAt : ck_ knX11 kX11_dayAt = true := by decide +kernel
set_option maxRecDepth 1000000 in
theorem oX11_asksOrders : ck_ knX11 kX11_asksOrders = true := by decide +kernel
set_option maxRecDepth 1000000 in
theorem oX11_oldest : ck_ knX11 kX11_oldest = true := by decide +kernel
set_option maxRecDepth 1000000 in
theorem oX11_older : ck_ knX11 kX11_older = true := by decide +kernel
set_option maxRecDepth 1000000 in
theorem oX11_apart : ck_ knX11 kX11_apart = true := by decide +kernel
set_option maxRecDepth 1000000 in
theorem oX11_idle : ck_ knX11 kX11_idle = true := by decide +kernel
set_option maxRecDepth 1000000 in
theorem oX11_asksSeen : ck_ knX11 kX11_asksSeen = true := by decide +kernel
set_option maxRecDepth 1000000 in
theorem oX11_seen : ck_ knX11 kX11_seen = true := by decide +kernel
set_option maxRecDepth 1000000 in
theorem oX11_isSeen : ck_ knX11 kX11_isSeen = true := by decide +kernel
set_option maxRecDepth 1000000 in
theorem oX11_fitsOf : ck_ knX11 kX11_fitsOf = true := by decide +kernel
set_option maxRecDepth 1000000 in
theorem oX11_fits : ck_ knX11 kX11_fits = true := by decide +kernel
set_option maxRecDepth 1000000 in
theorem oX11_fit : ck_ knX11 kX11_fit = true := by decide +kernel
set_option maxRecDepth 1000000 in
theorem oX11_sure : ck_ knX11 kX11_sure = true := by decide +kernel
set_option maxRecDepth 1000000 in
theorem oX11_worstOf : ck_ knX11 kX11_worstOf = true := by decide +kernel
set_option maxRecDepth 1000000 in
theorem oX11_askOf : ck_ knX11 kX11_askOf = true := by decide +kernel
set_option maxRecDepth 1000000 in
theorem oX11_ask : ck_ knX11 kX11_ask = true := by decide +kernel
set_option maxRecDepth 1000000 in
theorem oX11_leaves : ck_ knX11 kX11_leaves = true := by decide +kernel
set_option maxRecDepth 1000000 in
theorem oX11_holdOn : ck_ knX11 kX11_holdOn = true := by decide +kernel
set_option maxRecDepth 1000000 in
theorem oX11_holds : ck_ knX11 kX11_holds = true := by decide +kernel
set_option maxRecDepth 1000000 in
theorem oX11_overlap : ck_ knX11 kX11_overlap = true := by decide +kernel
set_option maxRecDepth 1000000 in
theorem oX11_most : ck_ knX11 kX11_most = true := by decide +kernel
set_option maxRecDepth 1000000 in
theorem oX11_ageOf : ck_ knX11 kX11_ageOf = true := by decide +kernel
set_option maxRecDepth 1000000 in
theorem oX11_age : ck_ knX11 kX11_age = true := by decide +kernel
set_option maxRecDepth 1000000 in
theorem oX11_gains : ck_ knX11 kX11_gains = true := by decide +kernel
set_option maxRecDepth 1000000 in
theorem oX11_march : ck_ knX11 kX11_march = true := by decide +kernel
set_option maxRecDepth 1000000 in
theorem oX11_findClash : ck_ knX11 kX11_findClash = true := by decide +kernel
set_option maxRecDepth 1000000 in
theorem oX11_isClash : ck_ knX11 kX11_isClash = true := by decide +kernel
set_option maxRecDepth 1000000 in
theorem oX11_clash : ck_ knX11 kX11_clash = true := by decide +kernel
set_option maxRecDepth 1000000 in
theorem oX11_place : ck_ knX11 kX11_place = true := by decide +kernel
set_option maxRecDepth 1000000 in
theorem oX11_aloneOf : ck_ knX11 kX11_aloneOf = true := by decide +kernel
set_option maxRecDepth 1000000 in
theorem oX11_alone : ck_ knX11 kX11_alone = true := by decide +kernel
set_option maxRecDepth 1000000 in
theorem oX11_beginOf : ck_ knX11 kX11_beginOf = true := by decide +kernel
set_option maxRecDepth 1000000 in
theorem oX11_isBegin : ck_ knX11 kX11_isBegin = true := by decide +kernel
set_option maxRecDepth 1000000 in
theorem oX11_begin : ck_ knX11 kX11_begin = true := by decide +kernel
set_option maxRecDepth 1000000 in
theorem oX11_begins : ck_ knX11 kX11_begins = true := by decide +kernel
set_option maxRecDepth 1000000 in
theorem oX11_rank : ck_ knX11 kX11_rank = true := by decide +kernel
set_option maxRecDepth 1000000 in
theorem oX11_behind : ck_ knX11 kX11_behind = true := by decide +kernel
set_option maxRecDepth 1000000 in
theorem oX11_bestTake : ck_ knX11 kX11_bestTake = true := by decide +kernel
set_option maxRecDepth 1000000 in
theorem oX11_turn : ck_ knX11 kX11_turn = true := by decide +kernel
set_option maxRecDepth 1000000 in
theorem oX11_copy : ck_ knX11 kX11_copy = true := by decide +kernel
set_option maxRecDepth 1000000 in
theorem oX11_play : ck_ knX11 kX11_play = true := by decide +kernel
set_option maxRecDepth 1000000 in
theorem oX11_isGame : ck_ knX11 kX11_isGame = true := by decide +kernel
set_option maxRecDepth 1000000 in
theorem oX11_game : ck_ knX11 kX11_game = true := by decide +kernel
set_option maxRecDepth 1000000 in
theorem oX11_takes_ : ck_ knX11 kX11_takes_ = true := by decide +kernel
set_option maxRecDepth 1000000 in
theorem oX11_keepChange : ck_ knX11 kX11_keepChange = true := by decide +kernel
set_option maxRecDepth 1000000 in
theorem oX11_found : ck_ knX11 kX11_found = true := by decide +kernel
set_option maxRecDepth 1000000 in
theorem oX11_grant : ck_ knX11 kX11_grant = true := by decide +kernel
set_option maxRecDepth 1000000 in
theorem oX11_ends : ck_ knX11 kX11_ends = true := by decide +kernel
set_option maxRecDepth 1000000 in
theorem oX11_undo : ck_ knX11 kX11_undo = true := by decide +kernel
set_option maxRecDepth 1000000 in
theorem oX11_goRain : ck_ knX11 kX11_goRain = true := by decide +kernel
set_option maxRecDepth 1000000 in
theorem oX11_isSeed : ck_ knX11 kX11_isSeed = true := by decide +kernel
set_option maxRecDepth 1000000 in
theorem oX11_drawn : ck_ knX11 kX11_drawn = true := by decide +kernel
set_option maxRecDepth 1000000 in
theorem oX11_luck : ck_ knX11 kX11_luck = true := by decide +kernel
set_option maxRecDepth 1000000 in
theorem oX11_count : ck_ knX11 kX11_count = true := by decide +kernel
set_option maxRecDepth 1000000 in
theorem oX11_isSlot : ck_ knX11 kX11_isSlot = true := by decide +kernel
set_option maxRecDepth 1000000 in
theorem oX11_cut : ck_ knX11 kX11_cut = true := by decide +kernel
set_option maxRecDepth 1000000 in
theorem oX11_row : ck_ knX11 kX11_row = true := by decide +kernel
set_option maxRecDepth 1000000 in
theorem oX11_write : ck_ knX11 kX11_write = true := by decide +kernel
set_option maxRecDepth 1000000 in
theorem oX11_paste : ck_ knX11 kX11_paste = true := by decide +kernel
set_option maxRecDepth 1000000 in
theorem oL_0 : ck_ knL kL_0 = true := by decide +kernel
set_option maxRecDepth 1000000 in
theorem oL_1 : ck_ knL kL_1 = true := by decide +kernel
set_option maxRecDepth 1000000 in
theorem oL_2 : ck_ knL kL_2 = true := by decide +kernel
set_option maxRecDepth 1000000 in
theorem oL_3 : ck_ knL kL_3 = true := by decide +kernel
set_option maxRecDepth 1000000 in
theorem oL_4 : ck_ knL kL_4 = true := by decide +kernel
set_option maxRecDepth 1000000 in
theorem oL_5 : ck_ knL kL_5 = true := by decide +kernel
set_option maxRecDepth 1000000 in
theorem oL_6 : ck_ knL kL_6 = true := by decide +kernel
set_option maxRecDepth 1000000 in
theorem oL_7 : ck_ knL kL_7 = true := by decide +kernel
set_option maxRecDepth 1000000 in
theorem oL_8 : ck_ knL kL_8 = true := by decide +kernel
set_option maxRecDepth 1000000 in
theorem oL_9 : ck_ knL kL_9 = true := by decide +kernel
set_option maxRecDepth 1000000 in
theorem oL_10 : ck_ knL kL_10 = true := by decide +kernel
set_option maxRecDepth 1000000 in
theorem oL_11 : ck_ knL kL_11 = true := by decide +kernel
set_option maxRecDepth 1000000 in
theorem oL_12 : ck_ knL kL_12 = true := by decide +kernel
set_option maxRecDepth 1000000 in
theorem oL_13 : ck_ knL kL_13 = true := by decide +kernel
set_option maxRecDepth 1000000 in
theorem oL_14 : ck_ knL kL_14 = true := by decide +kernel
set_option maxRecDepth 1000000 in
theorem oL_15 : ck_ knL kL_15 = true := by decide +kernel
set_option maxRecDepth 1000000 in
theorem oL_16 : ck_ knL kL_16 = true := by decide +kernel
set_option maxRecDepth 1000000 in
theorem oL_17 : ck_ knL kL_17 = true := by decide +kernel
set_option maxRecDepth 1000000 in
theorem oL_18 : ck_ knL kL_18 = true := by decide +kernel
set_option maxRecDepth 1000000 in
theorem oL_19 : ck_ knL kL_19 = true := by decide +kernel
set_option maxRecDepth 1000000 in
theorem oL_20 : ck_ knL kL_20 = true := by decide +kernel
set_option maxRecDepth 1000000 in
theorem oL_21 : ck_ knL kL_21 = true := by decide +kernel
set_option maxRecDepth 1000000 in
theorem oL_22 : ck_ knL kL_22 = true := by decide +kernel
set_option maxRecDepth 1000000 in
theorem oL_23 : ck_ knL kL_23 = true := by decide +kernel
set_option maxRecDepth 1000000 in
theorem oL_24 : ck_ knL kL_24 = true := by decide +kernel
set_option maxRecDepth 1000000 in
theorem oL_25 : ck_ knL kL_25 = true := by decide +kernel
set_option maxRecDepth 1000000 in
theorem oL_26 : ck_ knL kL_26 = true := by decide +kernel
set_option maxRecDepth 1000000 in
theorem oL_27 : ck_ knL kL_27 = true := by decide +kernel
set_option maxRecDepth 1000000 in
theorem oL_28 : ck_ knL kL_28 = true := by decide +kernel
set_option maxRecDepth 1000000 in
theorem oL_29 : ck_ knL kL_29 = true := by decide +kernel
set_option maxRecDepth 1000000 in
theorem oL_30 : ck_ knL kL_30 = true := by decide +kernel
set_option maxRecDepth 1000000 in
theorem oL_31 : ck_ knL kL_31 = true := by decide +kernel
set_option maxRecDepth 1000000 in
theorem oL_32 : ck_ knL kL_32 = true := by decide +kernel
set_option maxRecDepth 1000000 in
theorem oL_33 : ck_ knL kL_33 = true := by decide +kernel
set_option maxRecDepth 1000000 in
theorem oL_34 : ck_ knL kL_34 = true := by decide +kernel
set_option maxRecDepth 1000000 in
theorem oL_35 : ck_ knL kL_35 = true := by decide +kernel
set_option maxRecDepth 1000000 in
theorem oL_36 : ck_ knL kL_36 = true := by decide +kernel
set_option maxRecDepth 1000000 in
theorem oL_37 : ck_ knL kL_37 = true := by decide +kernel
set_option maxRecDepth 1000000 in
theorem oL_38 : ck_ knL kL_38 = true := by decide +kernel
set_option maxRecDepth 1000000 in
theorem oL_39 : ck_ knL kL_39 = true := by decide +kernel
set_option maxRecDepth 1000000 in
theorem oL_40 : ck_ knL kL_40 = true := by decide +kernel
set_option maxRecDepth 1000000 in
theorem oL_41 : ck_ knL kL_41 = true := by decide +kernel
set_option maxRecDepth 1000000 in
theorem oL_42 : ck_ knL kL_42 = true := by decide +kernel
set_option maxRecDepth 1000000 in
theorem oL_43 : ck_ knL kL_43 = true := by decide +kernel
set_option maxRecDepth 1000000 in
theorem oL_44 : ck_ knL kL_44 = true := by decide +kernel
set_option maxRecDepth 1000000 in
theorem oL_45 : ck_ knL kL_45 = true := by decide +kernel
set_option maxRecDepth 1000000 in
theorem oL_46 : ck_ knL kL_46 = true := by decide +kernel
set_option maxRecDepth 1000000 in
theorem oL_47 : ck_ knL kL_47 = true := by decide +kernel
set_option maxRecDepth 1000000 in
theorem oL_48 : ck_ knL kL_48 = true := by decide +kernel
set_option maxRecDepth 1000000 in
theorem oL_49 : ck_ knL kL_49 = true := by decide +kernel
set_option maxRecDepth 1000000 in
theorem oL_50 : ck_ knL kL_50 = true := by decide +kernel
set_option maxRecDepth 1000000 in
theorem oL_51 : ck_ knL kL_51 = true := by decide +kernel
set_option maxRecDepth 1000000 in
theorem oL_52 : ck_ knL kL_52 = true := by decide +kernel
set_option maxRecDepth 1000000 in
theorem oL_53 : ck_ knL kL_53 = true := by decide +kernel
set_option maxRecDepth 1000000 in
theorem oL_54 : ck_ knL kL_54 = true := by decide +kernel
set_option maxRecDepth 1000000 in
theorem oL_55 : ck_ knL kL_55 = true := by decide +kernel
set_option maxRecDepth 1000000 in
theorem oL_56 : ck_ knL kL_56 = true := by decide +kernel
set_option maxRecDepth 1000000 in
theorem oL_57 : ck_ knL kL_57 = true := by decide +kernel
set_option maxRecDepth 1000000 in
theorem oL_58 : ck_ knL kL_58 = true := by decide +kernel
set_option maxRecDepth 1000000 in
theorem oL_59 : ck_ knL kL_59 = true := by decide +kernel
set_option maxRecDepth 1000000 in
theorem oL_60 : ck_ knL kL_60 = true := by decide +kernel
set_option maxRecDepth 1000000 in
theorem oL_61 : ck_ knL kL_61 = true := by decide +kernel
set_option maxRecDepth 1000000 in
theorem oL_62 : ck_ knL kL_62 = true := by decide +kernel
