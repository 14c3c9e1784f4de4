/-! 21.meths -/
section
def Y_X0_init : mm_Y := (yX0_init, cX0_init, 2, none, 1, 15, [])
def Y_X0_hourOf : mm_Y := (yX0_hourOf, cX0_hourOf, 3, some .int, 1, 15, [])
def Y_X0_placeOf : mm_Y := (yX0_placeOf, cX0_placeOf, 2, some .int, 0, 0, [])
def Y_X0_take : mm_Y := (yX0_take, cX0_take, 7, none, 1, 13, [])
def Y_X0_knownAt : mm_Y := (yX0_knownAt, cX0_knownAt, 6, some .int, 1, 13, [])
def Y_X0_lowAt : mm_Y := (yX0_lowAt, cX0_lowAt, 3, some .int, 1, 14, [])
def Y_X0_highAt : mm_Y := (yX0_highAt, cX0_highAt, 3, some .int, 1, 14, [])
def Y_X0_windIn : mm_Y := (yX0_windIn, cX0_windIn, 5, some .int, 2, 28, [])
def Y_X0_isAlike : mm_Y := (yX0_isAlike, cX0_isAlike, 6, some .boolean, 1, 13, [])
def Y_X0_pullBy : mm_Y := (yX0_pullBy, cX0_pullBy, 5, some .int, 3, 47, [])
def Y_X0_isSafe : mm_Y := (yX0_isSafe, cX0_isSafe, 4, some .boolean, 4, 65, [])
def Y_X0_sureWork : mm_Y := (yX0_sureWork, cX0_sureWork, 5, some .int, 4, 65, [])
def Y_X0_sharedPull : mm_Y := (yX0_sharedPull, cX0_sharedPull, 5, some .int, 3, 47, [])
def Y_X1_init : mm_Y := (yX1_init, cX1_init, 3, none, 2, 30, [])
def Y_X1_forget : mm_Y := (yX1_forget, cX1_forget, 1, none, 0, 0, [])
def Y_X1_add : mm_Y := (yX1_add, cX1_add, 5, some .int, 3, 55, [])
def Y_X1_chooseBest : mm_Y := (yX1_chooseBest, cX1_chooseBest, 4, some .int, 1, 15, [])
def Y_X1_worthOf : mm_Y := (yX1_worthOf, cX1_worthOf, 4, some .int, 0, 0, [])
def Y_X1_nearest : mm_Y := (yX1_nearest, cX1_nearest, 13, some .int, 2, 31, [])
def Y_X1_bestShift : mm_Y := (yX1_bestShift, cX1_bestShift, 9, some .int, 3, 55, [])
def Y_X1_sharedStep : mm_Y := (yX1_sharedStep, cX1_sharedStep, 6, some .int, 1, 13, [])
def Y_X2_init : mm_Y := (yX2_init, cX2_init, 4, none, 1, 13, [])
def Y_X2_run : mm_Y := (yX2_run, cX2_run, 7, some .int, 6, 99, [])
def Y_X2_flyTick : mm_Y := (yX2_flyTick, cX2_flyTick, 4, none, 5, 84, [])
def Y_X2_countHeld : mm_Y := (yX2_countHeld, cX2_countHeld, 4, some .int, 6, 102, [])
def Y_X2_markLost : mm_Y := (yX2_markLost, cX2_markLost, 7, none, 5, 84, [])
def Y_X3_init : mm_Y := (yX3_init, cX3_init, 4, none, 2, 30, [])
def Y_X3_forgetHour : mm_Y := (yX3_forgetHour, cX3_forgetHour, 2, none, 0, 0, [])
def Y_X3_forgetAll : mm_Y := (yX3_forgetAll, cX3_forgetAll, 2, none, 0, 0, [])
def Y_X3_loopAt : mm_Y := (yX3_loopAt, cX3_loopAt, 3, some (.object "KitePower$Row"), 4, 75, [])
def Y_X3_foundAlike : mm_Y := (yX3_foundAlike, cX3_foundAlike, 3, some .int, 2, 30, [])
def Y_X3_weigh : mm_Y := (yX3_weigh, cX3_weigh, 7, none, 5, 89, [])
def Y_X3_choose : mm_Y := (yX3_choose, cX3_choose, 6, some .int, 1, 15, [])
def Y_X3_isPlanned : mm_Y := (yX3_isPlanned, cX3_isPlanned, 2, some .boolean, 0, 0, [])
def Y_X4_init : mm_Y := (yX4_init, cX4_init, 1, none, 3, 42, [])
def Y_X4_takeText : mm_Y := (yX4_takeText, cX4_takeText, 5, some .int, 6, 84, [])
def Y_X4_takeClause : mm_Y := (yX4_takeClause, cX4_takeClause, 3, some .boolean, 4, 53, [])
def Y_X4_takeList : mm_Y := (yX4_takeList, cX4_takeList, 6, some .boolean, 3, 36, [])
def Y_X4_startDraft : mm_Y := (yX4_startDraft, cX4_startDraft, 1, none, 2, 30, [])
def Y_X4_useDraft : mm_Y := (yX4_useDraft, cX4_useDraft, 5, none, 1, 18, [])
def Y_X4_fact : mm_Y := (yX4_fact, cX4_fact, 4, some .int, 1, 14, [])
def Y_X4_slants : mm_Y := (yX4_slants, cX4_slants, 1, some .int, 0, 0, [])
def Y_X4_across : mm_Y := (yX4_across, cX4_across, 1, some .int, 0, 0, [])
def Y_X4_hasState : mm_Y := (yX4_hasState, cX4_hasState, 2, some .boolean, 0, 0, [])
def Y_X4_hasAct : mm_Y := (yX4_hasAct, cX4_hasAct, 2, some .boolean, 1, 13, [])
def Y_X4_actCount : mm_Y := (yX4_actCount, cX4_actCount, 1, some .int, 0, 0, [])
def Y_X4_moveOf : mm_Y := (yX4_moveOf, cX4_moveOf, 1, some .int, 0, 0, [])
def Y_X4_drumOf : mm_Y := (yX4_drumOf, cX4_drumOf, 1, some .int, 0, 0, [])
def Y_X4_isSideways : mm_Y := (yX4_isSideways, cX4_isSideways, 1, some .boolean, 0, 0, [])
def Y_X4_canMove : mm_Y := (yX4_canMove, cX4_canMove, 3, some .boolean, 0, 0, [])
def Y_X4_canReel : mm_Y := (yX4_canReel, cX4_canReel, 3, some .boolean, 0, 0, [])
def Y_X4_moveStep : mm_Y := (yX4_moveStep, cX4_moveStep, 2, some .int, 0, 0, [])
def Y_X4_drumStep : mm_Y := (yX4_drumStep, cX4_drumStep, 3, some .int, 0, 0, [])
def Y_X4_goal : mm_Y := (yX4_goal, cX4_goal, 6, some .int, 1, 15, [])
def Y_X4_withinStates : mm_Y := (yX4_withinStates, cX4_withinStates, 6, some .int, 1, 14, [])
def Y_X4_pullOf : mm_Y := (yX4_pullOf, cX4_pullOf, 4, some .int, 1, 17, [])
def Y_X4_pullAt : mm_Y := (yX4_pullAt, cX4_pullAt, 6, some .int, 0, 0, [])
def Y_X4_workOf : mm_Y := (yX4_workOf, cX4_workOf, 3, some .int, 0, 0, [])
def Y_X4_fateOf : mm_Y := (yX4_fateOf, cX4_fateOf, 2, some .int, 0, 0, [])
def Y_X4_bears : mm_Y := (yX4_bears, cX4_bears, 3, some .boolean, 0, 0, [])
def Y_X4_tiringOf : mm_Y := (yX4_tiringOf, cX4_tiringOf, 2, some .int, 1, 13, [])
def Y_X5_init : mm_Y := (yX5_init, cX5_init, 1, none, 1, 15, [])
def Y_X5_add : mm_Y := (yX5_add, cX5_add, 5, some .int, 1, 15, [])
def Y_X5_firstBreach : mm_Y := (yX5_firstBreach, cX5_firstBreach, 8, some .int, 2, 31, [])
def Y_X6_init : mm_Y := (yX6_init, cX6_init, 3, none, 1, 13, [])
def Y_X6_find : mm_Y := (yX6_find, cX6_find, 8, none, 3, 56, [])
def Y_X6_optionOf : mm_Y := (yX6_optionOf, cX6_optionOf, 3, some .int, 0, 0, [])
def Y_X6_weighOptions : mm_Y := (yX6_weighOptions, cX6_weighOptions, 6, none, 2, 39, [])
def Y_X6_weighOption : mm_Y := (yX6_weighOption, cX6_weighOption, 11, none, 1, 17, [])
def Y_X6_drawPaths : mm_Y := (yX6_drawPaths, cX6_drawPaths, 6, none, 2, 36, [])
def Y_X6_drawMove : mm_Y := (yX6_drawMove, cX6_drawMove, 8, some .int, 1, 17, [])
def Y_X6_takeBetterMean : mm_Y := (yX6_takeBetterMean, cX6_takeBetterMean, 2, some .boolean, 2, 34, [])
def Y_X6_raiseLevels : mm_Y := (yX6_raiseLevels, cX6_raiseLevels, 3, some .boolean, 1, 20, [])
def Y_X6_raiseFrom : mm_Y := (yX6_raiseFrom, cX6_raiseFrom, 9, some .boolean, 0, 0, [])
def Y_X6_takeBestRing : mm_Y := (yX6_takeBestRing, cX6_takeBestRing, 5, some .boolean, 1, 17, [])
def Y_X6_takeRing : mm_Y := (yX6_takeRing, cX6_takeRing, 6, some .boolean, 0, 0, [])
def Y_X6_keepTightPaths : mm_Y := (yX6_keepTightPaths, cX6_keepTightPaths, 6, none, 0, 0, [])
def Y_X6_shortestFrom : mm_Y := (yX6_shortestFrom, cX6_shortestFrom, 7, some .int, 0, 0, [])
def Y_X6_markWaysBack : mm_Y := (yX6_markWaysBack, cX6_markWaysBack, 6, none, 1, 16, [])
def Y_X6_goesOn : mm_Y := (yX6_goesOn, cX6_goesOn, 5, some .boolean, 0, 0, [])
def Y_X6_writeLoop : mm_Y := (yX6_writeLoop, cX6_writeLoop, 9, none, 1, 16, [])
def Y_X7_init : mm_Y := (yX7_init, cX7_init, 3, none, 1, 13, [])
def Y_X7_forget : mm_Y := (yX7_forget, cX7_forget, 1, none, 0, 0, [])
def Y_X7_add : mm_Y := (yX7_add, cX7_add, 7, some .int, 0, 0, [])
def Y_X7_putRight : mm_Y := (yX7_putRight, cX7_putRight, 7, some .int, 0, 0, [])
def Y_X7_fittingShares : mm_Y := (yX7_fittingShares, cX7_fittingShares, 4, some .int, 5, 81, [])
def Y_X7_spanOf : mm_Y := (yX7_spanOf, cX7_spanOf, 4, some .int, 0, 0, [])
def Y_X7_sharesOf : mm_Y := (yX7_sharesOf, cX7_sharesOf, 6, some .int, 4, 63, [])
def Y_X7_bestNext : mm_Y := (yX7_bestNext, cX7_bestNext, 8, some .int, 6, 96, [])
def Y_X7_greatestHeap : mm_Y := (yX7_greatestHeap, cX7_greatestHeap, 10, some .int, 4, 63, [])
def Y_X8_init : mm_Y := (yX8_init, cX8_init, 3, none, 1, 13, [])
def Y_X8_copyFrom : mm_Y := (yX8_copyFrom, cX8_copyFrom, 2, none, 1, 18, [])
def Y_X8_takeActs : mm_Y := (yX8_takeActs, cX8_takeActs, 4, some .boolean, 2, 26, [])
def Y_X8_walk : mm_Y := (yX8_walk, cX8_walk, 7, none, 5, 81, [])
def Y_X8_tiring : mm_Y := (yX8_tiring, cX8_tiring, 6, some .int, 4, 65, [])
def Y_X9_init : mm_Y := (yX9_init, cX9_init, 2, none, 1, 13, [])
def Y_X9_forget : mm_Y := (yX9_forget, cX9_forget, 1, none, 0, 0, [])
def Y_X9_takeText : mm_Y := (yX9_takeText, cX9_takeText, 3, some .int, 9, 131, [])
def Y_X9_takeLine : mm_Y := (yX9_takeLine, cX9_takeLine, 3, some .boolean, 8, 117, [])
def Y_X9_takeConds : mm_Y := (yX9_takeConds, cX9_takeConds, 5, some .boolean, 7, 101, [])
def Y_X9_takeCond : mm_Y := (yX9_takeCond, cX9_takeCond, 4, some .boolean, 6, 86, [])
def Y_X9_takeAct : mm_Y := (yX9_takeAct, cX9_takeAct, 6, some .boolean, 6, 84, [])
def Y_X9_actFor : mm_Y := (yX9_actFor, cX9_actFor, 4, some .int, 4, 67, [])
def Y_X9_holds : mm_Y := (yX9_holds, cX9_holds, 9, some .boolean, 3, 47, [])
def Y_X9_valueOf : mm_Y := (yX9_valueOf, cX9_valueOf, 4, some .int, 2, 32, [])
def Y_X10_init : mm_Y := (yX10_init, cX10_init, 1, none, 1, 13, [])
def Y_X10_hasRoom : mm_Y := (yX10_hasRoom, cX10_hasRoom, 2, some .boolean, 0, 0, [])
def Y_X10_addInt : mm_Y := (yX10_addInt, cX10_addInt, 3, none, 0, 0, [])
def Y_X10_byteAt : mm_Y := (yX10_byteAt, cX10_byteAt, 2, some .int, 0, 0, [])
def Y_X10_startText : mm_Y := (yX10_startText, cX10_startText, 1, none, 0, 0, [])
def Y_X10_advance : mm_Y := (yX10_advance, cX10_advance, 1, none, 2, 24, [])
def Y_X10_takeWord : mm_Y := (yX10_takeWord, cX10_takeWord, 1, none, 1, 12, [])
def Y_X10_takeNumber : mm_Y := (yX10_takeNumber, cX10_takeNumber, 1, none, 1, 12, [])
def Y_X10_isAtEnd : mm_Y := (yX10_isAtEnd, cX10_isAtEnd, 1, some .boolean, 0, 0, [])
def Y_X10_isSemicolon : mm_Y := (yX10_isSemicolon, cX10_isSemicolon, 1, some .boolean, 0, 0, [])
def Y_X10_wordAmong : mm_Y := (yX10_wordAmong, cX10_wordAmong, 6, some .int, 5, 67, [])
def Y_X10_isNumberWithin : mm_Y := (yX10_isNumberWithin, cX10_isNumberWithin, 3, some .boolean, 1, 14, [])
def Y_X10_fails : mm_Y := (yX10_fails, cX10_fails, 2, some .boolean, 0, 0, [])
def Y_X10_isBlank : mm_Y := (yX10_isBlank, cX10_isBlank, 1, some .boolean, 0, 0, [])
def Y_X10_isLetter : mm_Y := (yX10_isLetter, cX10_isLetter, 1, some .boolean, 0, 0, [])
def Y_X10_isDigit : mm_Y := (yX10_isDigit, cX10_isDigit, 1, some .boolean, 0, 0, [])
def Y_X11_init : mm_Y := (yX11_init, cX11_init, 2, none, 4, 56, [])
def Y_X11_feed : mm_Y := (yX11_feed, cX11_feed, 6, some .int, 1, 14, [])
def Y_X11_end : mm_Y := (yX11_end, cX11_end, 2, some .int, 0, 0, [])
def Y_X11_kite : mm_Y := (yX11_kite, cX11_kite, 3, some .int, 7, 100, [])
def Y_X11_rules : mm_Y := (yX11_rules, cX11_rules, 2, some .int, 10, 145, [])
def Y_X11_fault : mm_Y := (yX11_fault, cX11_fault, 2, some .int, 0, 0, [])
def Y_X11_told : mm_Y := (yX11_told, cX11_told, 2, some .int, 2, 29, [])
def Y_X11_state : mm_Y := (yX11_state, cX11_state, 3, some .int, 1, 13, [])
def Y_X11_leads : mm_Y := (yX11_leads, cX11_leads, 3, some .int, 2, 32, [])
def Y_X11_wind : mm_Y := (yX11_wind, cX11_wind, 7, some .int, 2, 31, [])
def Y_X11_winds : mm_Y := (yX11_winds, cX11_winds, 4, some .int, 2, 30, [])
def Y_X11_pull : mm_Y := (yX11_pull, cX11_pull, 5, some .int, 2, 32, [])
def Y_X11_safe : mm_Y := (yX11_safe, cX11_safe, 4, some .int, 5, 80, [])
def Y_X11_gives : mm_Y := (yX11_gives, cX11_gives, 4, some .int, 5, 81, [])
def Y_X11_best : mm_Y := (yX11_best, cX11_best, 3, some .int, 5, 89, [])
def Y_X11_looped : mm_Y := (yX11_looped, cX11_looped, 2, some .int, 0, 0, [])
def Y_X11_judge : mm_Y := (yX11_judge, cX11_judge, 4, some .int, 7, 113, [])
def Y_X11_judgeTape : mm_Y := (yX11_judgeTape, cX11_judgeTape, 3, some .int, 6, 99, [])
def Y_X11_judged : mm_Y := (yX11_judged, cX11_judged, 2, some .int, 0, 0, [])
def Y_X11_keep : mm_Y := (yX11_keep, cX11_keep, 2, some .int, 2, 31, [])
def Y_X11_fly : mm_Y := (yX11_fly, cX11_fly, 7, some .int, 7, 117, [])
def Y_X11_flown : mm_Y := (yX11_flown, cX11_flown, 2, some .int, 0, 0, [])
def Y_X11_held : mm_Y := (yX11_held, cX11_held, 2, some .int, 7, 117, [])
def Y_X11_tired : mm_Y := (yX11_tired, cX11_tired, 3, some .int, 1, 14, [])
def Y_X11_rounds : mm_Y := (yX11_rounds, cX11_rounds, 5, some .int, 5, 82, [])
def Y_X11_plan : mm_Y := (yX11_plan, cX11_plan, 8, some .int, 6, 107, [])
def Y_X11_planned : mm_Y := (yX11_planned, cX11_planned, 2, some .int, 1, 13, [])
def Y_X11_apart : mm_Y := (yX11_apart, cX11_apart, 6, some .int, 3, 55, [])
def Y_X11_shift : mm_Y := (yX11_shift, cX11_shift, 5, some .int, 4, 75, [])
def Y_X11_stand : mm_Y := (yX11_stand, cX11_stand, 3, some .int, 4, 71, [])
def Y_X11_field : mm_Y := (yX11_field, cX11_field, 1, some .int, 2, 30, [])
def Y_X11_fielded : mm_Y := (yX11_fielded, cX11_fielded, 1, some .int, 0, 0, [])
def Y_X11_law : mm_Y := (yX11_law, cX11_law, 4, some .int, 2, 31, [])
def Y_X11_breach : mm_Y := (yX11_breach, cX11_breach, 6, some .int, 3, 50, [])
def Y_X11_hidden : mm_Y := (yX11_hidden, cX11_hidden, 3, some .int, 1, 14, [])
def Y_X11_pulls : mm_Y := (yX11_pulls, cX11_pulls, 4, some .int, 4, 63, [])
def Y_X11_read : mm_Y := (yX11_read, cX11_read, 7, some .int, 3, 41, [])
def Y_X11_right : mm_Y := (yX11_right, cX11_right, 5, some .int, 2, 30, [])
def Y_X11_fit : mm_Y := (yX11_fit, cX11_fit, 2, some .int, 6, 96, [])
def Y_X11_next : mm_Y := (yX11_next, cX11_next, 3, some .int, 7, 115, [])
def Y_X11_count : mm_Y := (yX11_count, cX11_count, 2, some .int, 2, 26, [])
def Y_X11_canAsk : mm_Y := (yX11_canAsk, cX11_canAsk, 4, some .boolean, 2, 26, [])
def Y_X11_canRead : mm_Y := (yX11_canRead, cX11_canRead, 5, some .boolean, 1, 14, [])
def Y_X11_canPair : mm_Y := (yX11_canPair, cX11_canPair, 5, some .boolean, 2, 26, [])
def Y_X11_areKept : mm_Y := (yX11_areKept, cX11_areKept, 3, some .boolean, 0, 0, [])
def Y_X11_isWithin : mm_Y := (yX11_isWithin, cX11_isWithin, 3, some .boolean, 0, 0, [])
def Y_X11_isHour : mm_Y := (yX11_isHour, cX11_isHour, 1, some .boolean, 1, 14, [])
def Y_X11_isBand : mm_Y := (yX11_isBand, cX11_isBand, 1, some .boolean, 1, 14, [])
def Y_X11_isStep : mm_Y := (yX11_isStep, cX11_isStep, 1, some .boolean, 1, 14, [])
def Y_X11_isSlot : mm_Y := (yX11_isSlot, cX11_isSlot, 1, some .boolean, 1, 14, [])
def Y_X11_isSite : mm_Y := (yX11_isSite, cX11_isSite, 1, some .boolean, 1, 14, [])
def Y_X11_isEach : mm_Y := (yX11_isEach, cX11_isEach, 1, some .boolean, 1, 14, [])
def Y_X11_isCost : mm_Y := (yX11_isCost, cX11_isCost, 1, some .boolean, 1, 14, [])
def Y_X12_init : mm_Y := (yX12_init, cX12_init, 1, none, 1, 13, [])
def Y_X13_in : mm_Y := (yX13_in, cX13_in, 6, some .boolean, 0, 0, [])
def Y_X13_isHour : mm_Y := (yX13_isHour, cX13_isHour, 1, some .boolean, 1, 17, [])
def Y_X13_wrong : mm_Y := (yX13_wrong, cX13_wrong, 2, some (.object "KitePowerModel$Stop"), 0, 0, [])
def Y_X13_byteAt : mm_Y := (yX13_byteAt, cX13_byteAt, 2, some .int, 0, 0, [])
def Y_X13_isSmall : mm_Y := (yX13_isSmall, cX13_isSmall, 1, some .boolean, 0, 0, [])
def Y_X13_isDigit : mm_Y := (yX13_isDigit, cX13_isDigit, 1, some .boolean, 0, 0, [])
def Y_X13_scan : mm_Y := (yX13_scan, cX13_scan, 2, none, 1, 15, [])
def Y_X13_is : mm_Y := (yX13_is, cX13_is, 4, some .boolean, 5, 67, [])
def Y_X13_need : mm_Y := (yX13_need, cX13_need, 3, none, 1, 13, [])
def Y_X13_look : mm_Y := (yX13_look, cX13_look, 3, some .int, 2, 27, [])
def Y_X13_number : mm_Y := (yX13_number, cX13_number, 4, some .int, 3, 41, [])
def Y_X13_close : mm_Y := (yX13_close, cX13_close, 1, none, 2, 28, [])
def Y_X13_begin : mm_Y := (yX13_begin, cX13_begin, 1, none, 2, 28, [])
def Y_X13_plain : mm_Y := (yX13_plain, cX13_plain, 2, none, 0, 0, [])
def Y_X13_clauseAtHand : mm_Y := (yX13_clauseAtHand, cX13_clauseAtHand, 1, some .int, 6, 82, [])
def Y_X13_readRow : mm_Y := (yX13_readRow, cX13_readRow, 6, some .int, 3, 41, [])
def Y_X13_readKite : mm_Y := (yX13_readKite, cX13_readKite, 3, some .int, 7, 94, [])
def Y_X13_takeKite : mm_Y := (yX13_takeKite, cX13_takeKite, 2, none, 1, 16, [])
def Y_X13_condAtHand : mm_Y := (yX13_condAtHand, cX13_condAtHand, 1, some .int, 6, 82, [])
def Y_X13_readCond : mm_Y := (yX13_readCond, cX13_readCond, 5, none, 7, 94, [])
def Y_X13_moveAtHand : mm_Y := (yX13_moveAtHand, cX13_moveAtHand, 1, some .int, 6, 82, [])
def Y_X13_drumAtHand : mm_Y := (yX13_drumAtHand, cX13_drumAtHand, 1, some .int, 6, 82, [])
def Y_X13_readLine : mm_Y := (yX13_readLine, cX13_readLine, 5, none, 8, 110, [])
def Y_X13_init : mm_Y := (yX13_init, cX13_init, 2, none, 2, 29, [])
def Y_X13_feed : mm_Y := (yX13_feed, cX13_feed, 6, some .int, 1, 14, [])
def Y_X13_lay : mm_Y := (yX13_lay, cX13_lay, 3, none, 0, 0, [])
def Y_X13_end : mm_Y := (yX13_end, cX13_end, 2, some .int, 1, 17, [])
def Y_X13_kite : mm_Y := (yX13_kite, cX13_kite, 3, some .int, 8, 108, [(0, 9, 12, 237)])
def Y_X13_rules : mm_Y := (yX13_rules, cX13_rules, 3, some .int, 9, 126, [(0, 23, 26, 237)])
def Y_X13_fault : mm_Y := (yX13_fault, cX13_fault, 2, some .int, 0, 0, [])
def Y_X13_told : mm_Y := (yX13_told, cX13_told, 2, some .int, 1, 17, [])
def Y_X13_states : mm_Y := (yX13_states, cX13_states, 1, some .int, 0, 0, [])
def Y_X13_columnOf : mm_Y := (yX13_columnOf, cX13_columnOf, 2, some .int, 0, 0, [])
def Y_X13_rowOf : mm_Y := (yX13_rowOf, cX13_rowOf, 2, some .int, 0, 0, [])
def Y_X13_ropeOf : mm_Y := (yX13_ropeOf, cX13_ropeOf, 2, some .int, 0, 0, [])
def Y_X13_heightOf : mm_Y := (yX13_heightOf, cX13_heightOf, 2, some .int, 1, 14, [])
def Y_X13_bandOf : mm_Y := (yX13_bandOf, cX13_bandOf, 2, some .int, 2, 28, [])
def Y_X13_acts : mm_Y := (yX13_acts, cX13_acts, 1, some .int, 0, 0, [])
def Y_X13_moveOf : mm_Y := (yX13_moveOf, cX13_moveOf, 1, some .int, 0, 0, [])
def Y_X13_drumOf : mm_Y := (yX13_drumOf, cX13_drumOf, 1, some .int, 0, 0, [])
def Y_X13_canMove : mm_Y := (yX13_canMove, cX13_canMove, 5, some .boolean, 1, 13, [])
def Y_X13_canReel : mm_Y := (yX13_canReel, cX13_canReel, 3, some .boolean, 1, 13, [])
def Y_X13_canDo : mm_Y := (yX13_canDo, cX13_canDo, 3, some .boolean, 2, 29, [])
def Y_X13_after : mm_Y := (yX13_after, cX13_after, 6, some .int, 1, 12, [])
def Y_X13_pullOf : mm_Y := (yX13_pullOf, cX13_pullOf, 5, some .int, 1, 17, [])
def Y_X13_workOf : mm_Y := (yX13_workOf, cX13_workOf, 4, some .int, 1, 12, [])
def Y_X13_isState : mm_Y := (yX13_isState, cX13_isState, 2, some .boolean, 1, 17, [])
def Y_X13_isAct : mm_Y := (yX13_isAct, cX13_isAct, 2, some .boolean, 1, 17, [])
def Y_X13_state : mm_Y := (yX13_state, cX13_state, 3, some .int, 3, 41, [])
def Y_X13_leads : mm_Y := (yX13_leads, cX13_leads, 3, some .int, 3, 43, [])
def Y_X13_isBand : mm_Y := (yX13_isBand, cX13_isBand, 1, some .boolean, 1, 17, [])
def Y_X13_wind : mm_Y := (yX13_wind, cX13_wind, 6, some .int, 2, 29, [])
def Y_X13_winds : mm_Y := (yX13_winds, cX13_winds, 6, some .int, 2, 29, [])
def Y_X13_lowAt : mm_Y := (yX13_lowAt, cX13_lowAt, 3, some .int, 3, 43, [])
def Y_X13_highAt : mm_Y := (yX13_highAt, cX13_highAt, 3, some .int, 3, 43, [])
def Y_X13_pull : mm_Y := (yX13_pull, cX13_pull, 4, some .int, 2, 33, [])
def Y_X13_isSafe : mm_Y := (yX13_isSafe, cX13_isSafe, 4, some .boolean, 4, 60, [])
def Y_X13_surely : mm_Y := (yX13_surely, cX13_surely, 4, some .int, 4, 62, [])
def Y_X13_safe : mm_Y := (yX13_safe, cX13_safe, 4, some .int, 5, 75, [])
def Y_X13_gives : mm_Y := (yX13_gives, cX13_gives, 4, some .int, 5, 77, [])
def Y_X13_findSteps : mm_Y := (yX13_findSteps, cX13_findSteps, 8, none, 5, 77, [])
def Y_X13_findWalks : mm_Y := (yX13_findWalks, cX13_findWalks, 8, none, 2, 30, [])
def Y_X13_findMean : mm_Y := (yX13_findMean, cX13_findMean, 12, some .boolean, 1, 12, [])
def Y_X13_lessMean : mm_Y := (yX13_lessMean, cX13_lessMean, 2, some .long, 0, 0, [])
def Y_X13_findHigh : mm_Y := (yX13_findHigh, cX13_findHigh, 8, none, 2, 29, [])
def Y_X13_isTight : mm_Y := (yX13_isTight, cX13_isTight, 4, some .boolean, 1, 15, [])
def Y_X13_isTightStep : mm_Y := (yX13_isTightStep, cX13_isTightStep, 3, some .boolean, 2, 32, [])
def Y_X13_findTight : mm_Y := (yX13_findTight, cX13_findTight, 3, none, 3, 46, [])
def Y_X13_roundOf : mm_Y := (yX13_roundOf, cX13_roundOf, 9, some .int, 1, 13, [])
def Y_X13_leadsTo : mm_Y := (yX13_leadsTo, cX13_leadsTo, 5, some .boolean, 0, 0, [])
def Y_X13_findFar : mm_Y := (yX13_findFar, cX13_findFar, 6, none, 1, 16, [])
def Y_X13_findLoop : mm_Y := (yX13_findLoop, cX13_findLoop, 2, some .boolean, 6, 96, [])
def Y_X13_findActs : mm_Y := (yX13_findActs, cX13_findActs, 7, none, 6, 97, [])
def Y_X13_isNext : mm_Y := (yX13_isNext, cX13_isNext, 7, some .boolean, 5, 79, [])
def Y_X13_best : mm_Y := (yX13_best, cX13_best, 3, some .int, 7, 115, [])
def Y_X13_looped : mm_Y := (yX13_looped, cX13_looped, 2, some .int, 1, 17, [])
def Y_X13_judge : mm_Y := (yX13_judge, cX13_judge, 8, some .int, 5, 77, [])
def Y_X13_judged : mm_Y := (yX13_judged, cX13_judged, 2, some .int, 0, 0, [])
def Y_X13_isSlot : mm_Y := (yX13_isSlot, cX13_isSlot, 1, some .boolean, 1, 17, [])
def Y_X13_keep : mm_Y := (yX13_keep, cX13_keep, 3, some .int, 2, 29, [])
def Y_X13_holds : mm_Y := (yX13_holds, cX13_holds, 6, some .boolean, 2, 33, [])
def Y_X13_actBy : mm_Y := (yX13_actBy, cX13_actBy, 6, some .int, 3, 50, [])
def Y_X13_flyOn : mm_Y := (yX13_flyOn, cX13_flyOn, 12, some .int, 4, 67, [])
def Y_X13_fly : mm_Y := (yX13_fly, cX13_fly, 7, some .int, 5, 91, [])
def Y_X13_flown : mm_Y := (yX13_flown, cX13_flown, 2, some .int, 1, 17, [])
def Y_X13_held : mm_Y := (yX13_held, cX13_held, 5, some .int, 5, 90, [])
def Y_X13_tired : mm_Y := (yX13_tired, cX13_tired, 3, some .int, 1, 17, [])
def Y_X13_isKept : mm_Y := (yX13_isKept, cX13_isKept, 2, some .boolean, 0, 0, [])
def Y_X13_rounds : mm_Y := (yX13_rounds, cX13_rounds, 8, some .int, 4, 62, [])
def Y_X13_plan : mm_Y := (yX13_plan, cX13_plan, 12, some .int, 7, 111, [])
def Y_X13_isCost : mm_Y := (yX13_isCost, cX13_isCost, 1, some .boolean, 1, 17, [])
def Y_X13_planned : mm_Y := (yX13_planned, cX13_planned, 2, some .int, 1, 17, [])
def Y_X13_findStates : mm_Y := (yX13_findStates, cX13_findStates, 5, none, 2, 29, [])
def Y_X13_leastApart : mm_Y := (yX13_leastApart, cX13_leastApart, 10, some .int, 3, 45, [])
def Y_X13_isSite : mm_Y := (yX13_isSite, cX13_isSite, 1, some .boolean, 1, 17, [])
def Y_X13_apart : mm_Y := (yX13_apart, cX13_apart, 6, some .int, 4, 66, [])
def Y_X13_shift : mm_Y := (yX13_shift, cX13_shift, 9, some .int, 4, 66, [])
def Y_X13_stand : mm_Y := (yX13_stand, cX13_stand, 5, some .int, 4, 68, [])
def Y_X13_field : mm_Y := (yX13_field, cX13_field, 7, some .int, 0, 0, [])
def Y_X13_fielded : mm_Y := (yX13_fielded, cX13_fielded, 1, some .int, 0, 0, [])
def Y_X13_law : mm_Y := (yX13_law, cX13_law, 4, some .int, 2, 29, [])
def Y_X13_breach : mm_Y := (yX13_breach, cX13_breach, 9, some .int, 3, 45, [])
def Y_X13_hidden : mm_Y := (yX13_hidden, cX13_hidden, 3, some .int, 1, 17, [])
def Y_X13_pullBy : mm_Y := (yX13_pullBy, cX13_pullBy, 5, some .int, 4, 60, [])
def Y_X13_pulls : mm_Y := (yX13_pulls, cX13_pulls, 4, some .int, 5, 76, [])
def Y_X13_arePulls : mm_Y := (yX13_arePulls, cX13_arePulls, 2, some .boolean, 1, 17, [])
def Y_X13_read : mm_Y := (yX13_read, cX13_read, 7, some .int, 2, 30, [])
def Y_X13_right : mm_Y := (yX13_right, cX13_right, 7, some .int, 2, 30, [])
def Y_X13_isSo : mm_Y := (yX13_isSo, cX13_isSo, 7, some .boolean, 5, 76, [])
def Y_X13_fitOf : mm_Y := (yX13_fitOf, cX13_fitOf, 6, some .int, 6, 94, [])
def Y_X13_fit : mm_Y := (yX13_fit, cX13_fit, 2, some .int, 7, 111, [])
def Y_X13_next : mm_Y := (yX13_next, cX13_next, 11, some .int, 7, 111, [])
def Y_X13_count : mm_Y := (yX13_count, cX13_count, 2, some .int, 1, 17, [])
def Y_J6_bitCount_0f7a4 : mm_Y := (yJ6_bitCount_0f7a4, cJ6_bitCount_0f7a4, 1, some .int, 0, 0, [])
def Y_J9_abs_0f7a4 : mm_Y := (yJ9_abs_0f7a4, cJ9_abs_0f7a4, 1, some .int, 0, 0, [])
def Y_J9_max_7cf53 : mm_Y := (yJ9_max_7cf53, cJ9_max_7cf53, 2, some .int, 0, 0, [])
def Y_J9_max_f86c9 : mm_Y := (yJ9_max_f86c9, cJ9_max_f86c9, 4, some .long, 0, 0, [])
def Y_J9_min_7cf53 : mm_Y := (yJ9_min_7cf53, cJ9_min_7cf53, 2, some .int, 0, 0, [])
def Y_J0_length_8abf5 : mm_Y := (yJ0_length_8abf5, cJ0_length_8abf5, 1, some .int, 1, 13, [])
def Y_J0_charAt_5068e : mm_Y := (yJ0_charAt_5068e, cJ0_charAt_5068e, 2, some .char, 4, 53, [])
def Y_J0_coder_7d493 : mm_Y := (yJ0_coder_7d493, cJ0_coder_7d493, 1, some .byte, 0, 0, [])
def Y_J0_isLatin1_aae02 : mm_Y := (yJ0_isLatin1_aae02, cJ0_isLatin1_aae02, 1, some .boolean, 0, 0, [])
def Y_J0_checkIndex_df160 : mm_Y := (yJ0_checkIndex_df160, cJ0_checkIndex_df160, 2, none, 1, 14, [])
def Y_J1_charAt_3b067 : mm_Y := (yJ1_charAt_3b067, cJ1_charAt_3b067, 2, some .char, 2, 27, [])
def Y_J2_getChar_3b067 : mm_Y := (yJ2_getChar_3b067, cJ2_getChar_3b067, 2, some .char, 1, 13, [])
def Y_J2_length_9d52b : mm_Y := (yJ2_length_9d52b, cJ2_length_9d52b, 1, some .int, 0, 0, [])
def Y_J2_charAt_3b067 : mm_Y := (yJ2_charAt_3b067, cJ2_charAt_3b067, 2, some .char, 3, 40, [])
def Y_J2_checkIndex_2214a : mm_Y := (yJ2_checkIndex_2214a, cJ2_checkIndex_2214a, 2, none, 2, 27, [])
def Y_J7_rangeCheck_23922 : mm_Y := (yJ7_rangeCheck_23922, cJ7_rangeCheck_23922, 3, none, 0, 0, [])
def Y_J7_fill_53178 : mm_Y := (yJ7_fill_53178, cJ7_fill_53178, 4, none, 0, 0, [])
def Y_J7_fill_fda19 : mm_Y := (yJ7_fill_fda19, cJ7_fill_fda19, 5, none, 1, 14, [])
def Y_J3_checkIndex_8e157 : mm_Y := (yJ3_checkIndex_8e157, cJ3_checkIndex_8e157, 3, some .int, 0, 0, [])
theorem cw_X0_init : mm_Wk (mm_cw Y_X0_init) := mm_w1 0 150 rfl rfl
theorem cw_X0_hourOf : mm_Wk (mm_cw Y_X0_hourOf) := mm_w1 4 102 rfl rfl
theorem cw_X0_placeOf : mm_Wk (mm_cw Y_X0_placeOf) := mm_w1 3 105 rfl rfl
theorem cw_X0_take : mm_Wk (mm_cw Y_X0_take) := mm_w1 3 102 rfl rfl
theorem cw_X0_knownAt : mm_Wk (mm_cw Y_X0_knownAt) := mm_w1 3 120 rfl rfl
theorem cw_X0_lowAt : mm_Wk (mm_cw Y_X0_lowAt) := mm_w1 3 164 rfl rfl
theorem cw_X0_highAt : mm_Wk (mm_cw Y_X0_highAt) := mm_w1 3 160 rfl rfl
theorem cw_X0_windIn : mm_Wk (mm_cw Y_X0_windIn) := mm_w1 3 156 rfl rfl
theorem cw_X0_isAlike : mm_Wk (mm_cw Y_X0_isAlike) := mm_w1 3 199 rfl rfl
theorem cw_X0_pullBy : mm_Wk (mm_cw Y_X0_pullBy) := mm_w1 3 152 rfl rfl
theorem cw_X0_isSafe : mm_Wk (mm_cw Y_X0_isSafe) := mm_w1 3 147 rfl rfl
theorem cw_X0_sureWork : mm_Wk (mm_cw Y_X0_sureWork) := mm_w1 3 177 rfl rfl
theorem cw_X0_sharedPull : mm_Wk (mm_cw Y_X0_sharedPull) := mm_w1 5 45 rfl rfl
theorem cw_X1_init : mm_Wk (mm_cw Y_X1_init) := mm_w1 1 181 rfl rfl
theorem cw_X1_forget : mm_Wk (mm_cw Y_X1_forget) := mm_w1 2 217 rfl rfl
theorem cw_X1_add : mm_Wk (mm_cw Y_X1_add) := mm_w1 4 238 rfl rfl
theorem cw_X1_chooseBest : mm_Wk (mm_cw Y_X1_chooseBest) := mm_w1 5 7 rfl rfl
theorem cw_X1_worthOf : mm_Wk (mm_cw Y_X1_worthOf) := mm_w1 5 11 rfl rfl
theorem cw_X1_nearest : mm_Wk (mm_cw Y_X1_nearest) := mm_w1 4 213 rfl rfl
theorem cw_X1_bestShift : mm_Wk (mm_cw Y_X1_bestShift) := mm_w1 4 229 rfl rfl
theorem cw_X1_sharedStep : mm_Wk (mm_cw Y_X1_sharedStep) := mm_w1 4 217 rfl rfl
theorem cw_X2_init : mm_Wk (mm_cw Y_X2_init) := mm_w1 1 132 rfl rfl
theorem cw_X2_run : mm_Wk (mm_cw Y_X2_run) := mm_w1 4 99 rfl rfl
theorem cw_X2_flyTick : mm_Wk (mm_cw Y_X2_flyTick) := mm_w1 4 108 rfl rfl
theorem cw_X2_countHeld : mm_Wk (mm_cw Y_X2_countHeld) := mm_w1 4 145 rfl rfl
theorem cw_X2_markLost : mm_Wk (mm_cw Y_X2_markLost) := mm_w1 4 149 rfl rfl
theorem cw_X3_init : mm_Wk (mm_cw Y_X3_init) := mm_w1 0 209 rfl rfl
theorem cw_X3_forgetHour : mm_Wk (mm_cw Y_X3_forgetHour) := mm_w1 3 109 rfl rfl
theorem cw_X3_forgetAll : mm_Wk (mm_cw Y_X3_forgetAll) := mm_w1 2 225 rfl rfl
theorem cw_X3_loopAt : mm_Wk (mm_cw Y_X3_loopAt) := mm_w1 3 191 rfl rfl
theorem cw_X3_foundAlike : mm_Wk (mm_cw Y_X3_foundAlike) := mm_w1 3 195 rfl rfl
theorem cw_X3_weigh : mm_Wk (mm_cw Y_X3_weigh) := mm_w1 4 180 rfl rfl
theorem cw_X3_choose : mm_Wk (mm_cw Y_X3_choose) := mm_w1 4 185 rfl rfl
theorem cw_X3_isPlanned : mm_Wk (mm_cw Y_X3_isPlanned) := mm_w1 4 194 rfl rfl
theorem cw_X4_init : mm_Wk (mm_cw Y_X4_init) := mm_w1 0 75 rfl rfl
theorem cw_X4_takeText : mm_Wk (mm_cw Y_X4_takeText) := mm_w1 2 99 rfl rfl
theorem cw_X4_takeClause : mm_Wk (mm_cw Y_X4_takeClause) := mm_w1 2 189 rfl rfl
theorem cw_X4_takeList : mm_Wk (mm_cw Y_X4_takeList) := mm_w1 2 193 rfl rfl
theorem cw_X4_startDraft : mm_Wk (mm_cw Y_X4_startDraft) := mm_w1 0 80 rfl rfl
theorem cw_X4_useDraft : mm_Wk (mm_cw Y_X4_useDraft) := mm_w1 0 95 rfl rfl
theorem cw_X4_fact : mm_Wk (mm_cw Y_X4_fact) := mm_w1 3 40 rfl rfl
theorem cw_X4_slants : mm_Wk (mm_cw Y_X4_slants) := mm_w1 3 25 rfl rfl
theorem cw_X4_across : mm_Wk (mm_cw Y_X4_across) := mm_w1 3 220 rfl rfl
theorem cw_X4_hasState : mm_Wk (mm_cw Y_X4_hasState) := mm_w1 3 49 rfl rfl
theorem cw_X4_hasAct : mm_Wk (mm_cw Y_X4_hasAct) := mm_w1 3 57 rfl rfl
theorem cw_X4_actCount : mm_Wk (mm_cw Y_X4_actCount) := mm_w1 3 61 rfl rfl
theorem cw_X4_moveOf : mm_Wk (mm_cw Y_X4_moveOf) := mm_w1 3 68 rfl rfl
theorem cw_X4_drumOf : mm_Wk (mm_cw Y_X4_drumOf) := mm_w1 3 71 rfl rfl
theorem cw_X4_isSideways : mm_Wk (mm_cw Y_X4_isSideways) := mm_w1 3 131 rfl rfl
theorem cw_X4_canMove : mm_Wk (mm_cw Y_X4_canMove) := mm_w1 3 75 rfl rfl
theorem cw_X4_canReel : mm_Wk (mm_cw Y_X4_canReel) := mm_w1 3 79 rfl rfl
theorem cw_X4_moveStep : mm_Wk (mm_cw Y_X4_moveStep) := mm_w1 3 83 rfl rfl
theorem cw_X4_drumStep : mm_Wk (mm_cw Y_X4_drumStep) := mm_w1 3 87 rfl rfl
theorem cw_X4_goal : mm_Wk (mm_cw Y_X4_goal) := mm_w1 3 65 rfl rfl
theorem cw_X4_withinStates : mm_Wk (mm_cw Y_X4_withinStates) := mm_w1 4 125 rfl rfl
theorem cw_X4_pullOf : mm_Wk (mm_cw Y_X4_pullOf) := mm_w1 3 128 rfl rfl
theorem cw_X4_pullAt : mm_Wk (mm_cw Y_X4_pullAt) := mm_w1 3 135 rfl rfl
theorem cw_X4_workOf : mm_Wk (mm_cw Y_X4_workOf) := mm_w1 3 182 rfl rfl
theorem cw_X4_fateOf : mm_Wk (mm_cw Y_X4_fateOf) := mm_w1 4 130 rfl rfl
theorem cw_X4_bears : mm_Wk (mm_cw Y_X4_bears) := mm_w1 3 169 rfl rfl
theorem cw_X4_tiringOf : mm_Wk (mm_cw Y_X4_tiringOf) := mm_w1 4 166 rfl rfl
theorem cw_X5_init : mm_Wk (mm_cw Y_X5_init) := mm_w1 1 210 rfl rfl
theorem cw_X5_add : mm_Wk (mm_cw Y_X5_add) := mm_w1 5 23 rfl rfl
theorem cw_X5_firstBreach : mm_Wk (mm_cw Y_X5_firstBreach) := mm_w1 5 32 rfl rfl
theorem cw_X6_init : mm_Wk (mm_cw Y_X6_init) := mm_w1 0 217 rfl rfl
theorem cw_X6_find : mm_Wk (mm_cw Y_X6_find) := mm_w1 3 209 rfl rfl
theorem cw_X6_optionOf : mm_Wk (mm_cw Y_X6_optionOf) := mm_w1 3 223 rfl rfl
theorem cw_X6_weighOptions : mm_Wk (mm_cw Y_X6_weighOptions) := mm_w1 3 213 rfl rfl
theorem cw_X6_weighOption : mm_Wk (mm_cw Y_X6_weighOption) := mm_w1 3 227 rfl rfl
theorem cw_X6_drawPaths : mm_Wk (mm_cw Y_X6_drawPaths) := mm_w1 3 235 rfl rfl
theorem cw_X6_drawMove : mm_Wk (mm_cw Y_X6_drawMove) := mm_w1 4 1 rfl rfl
theorem cw_X6_takeBetterMean : mm_Wk (mm_cw Y_X6_takeBetterMean) := mm_w1 4 10 rfl rfl
theorem cw_X6_raiseLevels : mm_Wk (mm_cw Y_X6_raiseLevels) := mm_w1 4 14 rfl rfl
theorem cw_X6_raiseFrom : mm_Wk (mm_cw Y_X6_raiseFrom) := mm_w1 4 18 rfl rfl
theorem cw_X6_takeBestRing : mm_Wk (mm_cw Y_X6_takeBestRing) := mm_w1 4 22 rfl rfl
theorem cw_X6_takeRing : mm_Wk (mm_cw Y_X6_takeRing) := mm_w1 4 26 rfl rfl
theorem cw_X6_keepTightPaths : mm_Wk (mm_cw Y_X6_keepTightPaths) := mm_w1 4 30 rfl rfl
theorem cw_X6_shortestFrom : mm_Wk (mm_cw Y_X6_shortestFrom) := mm_w1 4 34 rfl rfl
theorem cw_X6_markWaysBack : mm_Wk (mm_cw Y_X6_markWaysBack) := mm_w1 4 38 rfl rfl
theorem cw_X6_goesOn : mm_Wk (mm_cw Y_X6_goesOn) := mm_w1 4 42 rfl rfl
theorem cw_X6_writeLoop : mm_Wk (mm_cw Y_X6_writeLoop) := mm_w1 4 46 rfl rfl
theorem cw_X7_init : mm_Wk (mm_cw Y_X7_init) := mm_w1 1 225 rfl rfl
theorem cw_X7_forget : mm_Wk (mm_cw Y_X7_forget) := mm_w1 2 221 rfl rfl
theorem cw_X7_add : mm_Wk (mm_cw Y_X7_add) := mm_w1 5 58 rfl rfl
theorem cw_X7_putRight : mm_Wk (mm_cw Y_X7_putRight) := mm_w1 5 66 rfl rfl
theorem cw_X7_fittingShares : mm_Wk (mm_cw Y_X7_fittingShares) := mm_w1 5 74 rfl rfl
theorem cw_X7_spanOf : mm_Wk (mm_cw Y_X7_spanOf) := mm_w1 5 79 rfl rfl
theorem cw_X7_sharesOf : mm_Wk (mm_cw Y_X7_sharesOf) := mm_w1 5 83 rfl rfl
theorem cw_X7_bestNext : mm_Wk (mm_cw Y_X7_bestNext) := mm_w1 5 93 rfl rfl
theorem cw_X7_greatestHeap : mm_Wk (mm_cw Y_X7_greatestHeap) := mm_w1 5 106 rfl rfl
theorem cw_X8_init : mm_Wk (mm_cw Y_X8_init) := mm_w1 1 39 rfl rfl
theorem cw_X8_copyFrom : mm_Wk (mm_cw Y_X8_copyFrom) := mm_w1 3 203 rfl rfl
theorem cw_X8_takeActs : mm_Wk (mm_cw Y_X8_takeActs) := mm_w1 4 63 rfl rfl
theorem cw_X8_walk : mm_Wk (mm_cw Y_X8_walk) := mm_w1 4 72 rfl rfl
theorem cw_X8_tiring : mm_Wk (mm_cw Y_X8_tiring) := mm_w1 4 162 rfl rfl
theorem cw_X9_init : mm_Wk (mm_cw Y_X9_init) := mm_w1 0 189 rfl rfl
theorem cw_X9_forget : mm_Wk (mm_cw Y_X9_forget) := mm_w1 2 213 rfl rfl
theorem cw_X9_takeText : mm_Wk (mm_cw Y_X9_takeText) := mm_w1 2 233 rfl rfl
theorem cw_X9_takeLine : mm_Wk (mm_cw Y_X9_takeLine) := mm_w1 3 1 rfl rfl
theorem cw_X9_takeConds : mm_Wk (mm_cw Y_X9_takeConds) := mm_w1 3 8 rfl rfl
theorem cw_X9_takeCond : mm_Wk (mm_cw Y_X9_takeCond) := mm_w1 3 12 rfl rfl
theorem cw_X9_takeAct : mm_Wk (mm_cw Y_X9_takeAct) := mm_w1 3 21 rfl rfl
theorem cw_X9_actFor : mm_Wk (mm_cw Y_X9_actFor) := mm_w1 4 112 rfl rfl
theorem cw_X9_holds : mm_Wk (mm_cw Y_X9_holds) := mm_w1 4 116 rfl rfl
theorem cw_X9_valueOf : mm_Wk (mm_cw Y_X9_valueOf) := mm_w1 4 120 rfl rfl
theorem cw_X10_init : mm_Wk (mm_cw Y_X10_init) := mm_w1 0 37 rfl rfl
theorem cw_X10_hasRoom : mm_Wk (mm_cw Y_X10_hasRoom) := mm_w1 2 83 rfl rfl
theorem cw_X10_addInt : mm_Wk (mm_cw Y_X10_addInt) := mm_w1 2 87 rfl rfl
theorem cw_X10_byteAt : mm_Wk (mm_cw Y_X10_byteAt) := mm_w1 4 67 rfl rfl
theorem cw_X10_startText : mm_Wk (mm_cw Y_X10_startText) := mm_w1 2 103 rfl rfl
theorem cw_X10_advance : mm_Wk (mm_cw Y_X10_advance) := mm_w1 2 107 rfl rfl
theorem cw_X10_takeWord : mm_Wk (mm_cw Y_X10_takeWord) := mm_w1 2 117 rfl rfl
theorem cw_X10_takeNumber : mm_Wk (mm_cw Y_X10_takeNumber) := mm_w1 2 124 rfl rfl
theorem cw_X10_isAtEnd : mm_Wk (mm_cw Y_X10_isAtEnd) := mm_w1 2 128 rfl rfl
theorem cw_X10_isSemicolon : mm_Wk (mm_cw Y_X10_isSemicolon) := mm_w1 2 197 rfl rfl
theorem cw_X10_wordAmong : mm_Wk (mm_cw Y_X10_wordAmong) := mm_w1 2 133 rfl rfl
theorem cw_X10_isNumberWithin : mm_Wk (mm_cw Y_X10_isNumberWithin) := mm_w1 2 201 rfl rfl
theorem cw_X10_fails : mm_Wk (mm_cw Y_X10_fails) := mm_w1 2 185 rfl rfl
theorem cw_X10_isBlank : mm_Wk (mm_cw Y_X10_isBlank) := mm_w1 2 110 rfl rfl
theorem cw_X10_isLetter : mm_Wk (mm_cw Y_X10_isLetter) := mm_w1 2 113 rfl rfl
theorem cw_X10_isDigit : mm_Wk (mm_cw Y_X10_isDigit) := mm_w1 2 120 rfl rfl
theorem cw_X11_init : mm_Wk (mm_cw Y_X11_init) := mm_w1 0 29 rfl rfl
theorem cw_X11_feed : mm_Wk (mm_cw Y_X11_feed) := mm_w1 2 79 rfl rfl
theorem cw_X11_end : mm_Wk (mm_cw Y_X11_end) := mm_w1 2 91 rfl rfl
theorem cw_X11_kite : mm_Wk (mm_cw Y_X11_kite) := mm_w1 2 95 rfl rfl
theorem cw_X11_rules : mm_Wk (mm_cw Y_X11_rules) := mm_w1 2 229 rfl rfl
theorem cw_X11_fault : mm_Wk (mm_cw Y_X11_fault) := mm_w1 3 32 rfl rfl
theorem cw_X11_told : mm_Wk (mm_cw Y_X11_told) := mm_w1 3 36 rfl rfl
theorem cw_X11_state : mm_Wk (mm_cw Y_X11_state) := mm_w1 3 45 rfl rfl
theorem cw_X11_leads : mm_Wk (mm_cw Y_X11_leads) := mm_w1 3 53 rfl rfl
theorem cw_X11_wind : mm_Wk (mm_cw Y_X11_wind) := mm_w1 3 91 rfl rfl
theorem cw_X11_winds : mm_Wk (mm_cw Y_X11_winds) := mm_w1 3 113 rfl rfl
theorem cw_X11_pull : mm_Wk (mm_cw Y_X11_pull) := mm_w1 3 124 rfl rfl
theorem cw_X11_safe : mm_Wk (mm_cw Y_X11_safe) := mm_w1 3 139 rfl rfl
theorem cw_X11_gives : mm_Wk (mm_cw Y_X11_gives) := mm_w1 3 173 rfl rfl
theorem cw_X11_best : mm_Wk (mm_cw Y_X11_best) := mm_w1 3 187 rfl rfl
theorem cw_X11_looped : mm_Wk (mm_cw Y_X11_looped) := mm_w1 4 51 rfl rfl
theorem cw_X11_judge : mm_Wk (mm_cw Y_X11_judge) := mm_w1 4 55 rfl rfl
theorem cw_X11_judgeTape : mm_Wk (mm_cw Y_X11_judgeTape) := mm_w1 4 59 rfl rfl
theorem cw_X11_judged : mm_Wk (mm_cw Y_X11_judged) := mm_w1 4 81 rfl rfl
theorem cw_X11_keep : mm_Wk (mm_cw Y_X11_keep) := mm_w1 4 85 rfl rfl
theorem cw_X11_fly : mm_Wk (mm_cw Y_X11_fly) := mm_w1 4 92 rfl rfl
theorem cw_X11_flown : mm_Wk (mm_cw Y_X11_flown) := mm_w1 4 137 rfl rfl
theorem cw_X11_held : mm_Wk (mm_cw Y_X11_held) := mm_w1 4 141 rfl rfl
theorem cw_X11_tired : mm_Wk (mm_cw Y_X11_tired) := mm_w1 4 153 rfl rfl
theorem cw_X11_rounds : mm_Wk (mm_cw Y_X11_rounds) := mm_w1 4 158 rfl rfl
theorem cw_X11_plan : mm_Wk (mm_cw Y_X11_plan) := mm_w1 4 172 rfl rfl
theorem cw_X11_planned : mm_Wk (mm_cw Y_X11_planned) := mm_w1 4 190 rfl rfl
theorem cw_X11_apart : mm_Wk (mm_cw Y_X11_apart) := mm_w1 4 198 rfl rfl
theorem cw_X11_shift : mm_Wk (mm_cw Y_X11_shift) := mm_w1 4 225 rfl rfl
theorem cw_X11_stand : mm_Wk (mm_cw Y_X11_stand) := mm_w1 4 234 rfl rfl
theorem cw_X11_field : mm_Wk (mm_cw Y_X11_field) := mm_w1 5 3 rfl rfl
theorem cw_X11_fielded : mm_Wk (mm_cw Y_X11_fielded) := mm_w1 5 15 rfl rfl
theorem cw_X11_law : mm_Wk (mm_cw Y_X11_law) := mm_w1 5 19 rfl rfl
theorem cw_X11_breach : mm_Wk (mm_cw Y_X11_breach) := mm_w1 5 28 rfl rfl
theorem cw_X11_hidden : mm_Wk (mm_cw Y_X11_hidden) := mm_w1 5 37 rfl rfl
theorem cw_X11_pulls : mm_Wk (mm_cw Y_X11_pulls) := mm_w1 5 41 rfl rfl
theorem cw_X11_read : mm_Wk (mm_cw Y_X11_read) := mm_w1 5 49 rfl rfl
theorem cw_X11_right : mm_Wk (mm_cw Y_X11_right) := mm_w1 5 62 rfl rfl
theorem cw_X11_fit : mm_Wk (mm_cw Y_X11_fit) := mm_w1 5 70 rfl rfl
theorem cw_X11_next : mm_Wk (mm_cw Y_X11_next) := mm_w1 5 89 rfl rfl
theorem cw_X11_count : mm_Wk (mm_cw Y_X11_count) := mm_w1 5 111 rfl rfl
theorem cw_X11_canAsk : mm_Wk (mm_cw Y_X11_canAsk) := mm_w1 3 143 rfl rfl
theorem cw_X11_canRead : mm_Wk (mm_cw Y_X11_canRead) := mm_w1 5 53 rfl rfl
theorem cw_X11_canPair : mm_Wk (mm_cw Y_X11_canPair) := mm_w1 4 202 rfl rfl
theorem cw_X11_areKept : mm_Wk (mm_cw Y_X11_areKept) := mm_w1 4 209 rfl rfl
theorem cw_X11_isWithin : mm_Wk (mm_cw Y_X11_isWithin) := mm_w1 2 205 rfl rfl
theorem cw_X11_isHour : mm_Wk (mm_cw Y_X11_isHour) := mm_w1 3 94 rfl rfl
theorem cw_X11_isBand : mm_Wk (mm_cw Y_X11_isBand) := mm_w1 3 98 rfl rfl
theorem cw_X11_isStep : mm_Wk (mm_cw Y_X11_isStep) := mm_w1 3 116 rfl rfl
theorem cw_X11_isSlot : mm_Wk (mm_cw Y_X11_isSlot) := mm_w1 4 88 rfl rfl
theorem cw_X11_isSite : mm_Wk (mm_cw Y_X11_isSite) := mm_w1 4 205 rfl rfl
theorem cw_X11_isEach : mm_Wk (mm_cw Y_X11_isEach) := mm_w1 4 95 rfl rfl
theorem cw_X11_isCost : mm_Wk (mm_cw Y_X11_isCost) := mm_w1 4 175 rfl rfl
theorem cw_X12_init : mm_Wk (mm_cw Y_X12_init) := mm_w1 5 157 rfl rfl
theorem cw_X13_in : mm_Wk (mm_cw Y_X13_in) := mm_w1 7 54 rfl rfl
theorem cw_X13_isHour : mm_Wk (mm_cw Y_X13_isHour) := mm_w1 8 20 rfl rfl
theorem cw_X13_wrong : mm_Wk (mm_cw Y_X13_wrong) := mm_w1 7 110 rfl rfl
theorem cw_X13_byteAt : mm_Wk (mm_cw Y_X13_byteAt) := mm_w1 7 70 rfl rfl
theorem cw_X13_isSmall : mm_Wk (mm_cw Y_X13_isSmall) := mm_w1 7 73 rfl rfl
theorem cw_X13_isDigit : mm_Wk (mm_cw Y_X13_isDigit) := mm_w1 7 76 rfl rfl
theorem cw_X13_scan : mm_Wk (mm_cw Y_X13_scan) := mm_w1 7 66 rfl rfl
theorem cw_X13_is : mm_Wk (mm_cw Y_X13_is) := mm_w1 7 89 rfl rfl
theorem cw_X13_need : mm_Wk (mm_cw Y_X13_need) := mm_w1 7 106 rfl rfl
theorem cw_X13_look : mm_Wk (mm_cw Y_X13_look) := mm_w1 7 118 rfl rfl
theorem cw_X13_number : mm_Wk (mm_cw Y_X13_number) := mm_w1 7 126 rfl rfl
theorem cw_X13_close : mm_Wk (mm_cw Y_X13_close) := mm_w1 7 130 rfl rfl
theorem cw_X13_begin : mm_Wk (mm_cw Y_X13_begin) := mm_w1 7 62 rfl rfl
theorem cw_X13_plain : mm_Wk (mm_cw Y_X13_plain) := mm_w1 5 181 rfl rfl
theorem cw_X13_clauseAtHand : mm_Wk (mm_cw Y_X13_clauseAtHand) := mm_w1 7 84 rfl rfl
theorem cw_X13_readRow : mm_Wk (mm_cw Y_X13_readRow) := mm_w1 7 114 rfl rfl
theorem cw_X13_readKite : mm_Wk (mm_cw Y_X13_readKite) := mm_w1 7 80 rfl rfl
theorem cw_X13_takeKite : mm_Wk (mm_cw Y_X13_takeKite) := mm_w1 5 187 rfl rfl
theorem cw_X13_condAtHand : mm_Wk (mm_cw Y_X13_condAtHand) := mm_w1 7 147 rfl rfl
theorem cw_X13_readCond : mm_Wk (mm_cw Y_X13_readCond) := mm_w1 7 143 rfl rfl
theorem cw_X13_moveAtHand : mm_Wk (mm_cw Y_X13_moveAtHand) := mm_w1 7 161 rfl rfl
theorem cw_X13_drumAtHand : mm_Wk (mm_cw Y_X13_drumAtHand) := mm_w1 7 170 rfl rfl
theorem cw_X13_readLine : mm_Wk (mm_cw Y_X13_readLine) := mm_w1 7 138 rfl rfl
theorem cw_X13_init : mm_Wk (mm_cw Y_X13_init) := mm_w1 5 116 rfl rfl
theorem cw_X13_feed : mm_Wk (mm_cw Y_X13_feed) := mm_w1 7 43 rfl rfl
theorem cw_X13_lay : mm_Wk (mm_cw Y_X13_lay) := mm_w1 7 47 rfl rfl
theorem cw_X13_end : mm_Wk (mm_cw Y_X13_end) := mm_w1 7 51 rfl rfl
theorem cw_X13_kite : mm_Wk (mm_cw Y_X13_kite) := mm_w1 7 58 rfl rfl
theorem cw_X13_rules : mm_Wk (mm_cw Y_X13_rules) := mm_w1 7 134 rfl rfl
theorem cw_X13_fault : mm_Wk (mm_cw Y_X13_fault) := mm_w1 7 177 rfl rfl
theorem cw_X13_told : mm_Wk (mm_cw Y_X13_told) := mm_w1 7 181 rfl rfl
theorem cw_X13_states : mm_Wk (mm_cw Y_X13_states) := mm_w1 7 198 rfl rfl
theorem cw_X13_columnOf : mm_Wk (mm_cw Y_X13_columnOf) := mm_w1 7 202 rfl rfl
theorem cw_X13_rowOf : mm_Wk (mm_cw Y_X13_rowOf) := mm_w1 7 206 rfl rfl
theorem cw_X13_ropeOf : mm_Wk (mm_cw Y_X13_ropeOf) := mm_w1 7 210 rfl rfl
theorem cw_X13_heightOf : mm_Wk (mm_cw Y_X13_heightOf) := mm_w1 7 214 rfl rfl
theorem cw_X13_bandOf : mm_Wk (mm_cw Y_X13_bandOf) := mm_w1 7 218 rfl rfl
theorem cw_X13_acts : mm_Wk (mm_cw Y_X13_acts) := mm_w1 7 230 rfl rfl
theorem cw_X13_moveOf : mm_Wk (mm_cw Y_X13_moveOf) := mm_w1 7 237 rfl rfl
theorem cw_X13_drumOf : mm_Wk (mm_cw Y_X13_drumOf) := mm_w1 8 4 rfl rfl
theorem cw_X13_canMove : mm_Wk (mm_cw Y_X13_canMove) := mm_w1 8 1 rfl rfl
theorem cw_X13_canReel : mm_Wk (mm_cw Y_X13_canReel) := mm_w1 8 8 rfl rfl
theorem cw_X13_canDo : mm_Wk (mm_cw Y_X13_canDo) := mm_w1 7 234 rfl rfl
theorem cw_X13_after : mm_Wk (mm_cw Y_X13_after) := mm_w1 8 12 rfl rfl
theorem cw_X13_pullOf : mm_Wk (mm_cw Y_X13_pullOf) := mm_w1 8 38 rfl rfl
theorem cw_X13_workOf : mm_Wk (mm_cw Y_X13_workOf) := mm_w1 8 67 rfl rfl
theorem cw_X13_isState : mm_Wk (mm_cw Y_X13_isState) := mm_w1 7 194 rfl rfl
theorem cw_X13_isAct : mm_Wk (mm_cw Y_X13_isAct) := mm_w1 7 226 rfl rfl
theorem cw_X13_state : mm_Wk (mm_cw Y_X13_state) := mm_w1 7 190 rfl rfl
theorem cw_X13_leads : mm_Wk (mm_cw Y_X13_leads) := mm_w1 7 222 rfl rfl
theorem cw_X13_isBand : mm_Wk (mm_cw Y_X13_isBand) := mm_w1 8 24 rfl rfl
theorem cw_X13_wind : mm_Wk (mm_cw Y_X13_wind) := mm_w1 8 16 rfl rfl
theorem cw_X13_winds : mm_Wk (mm_cw Y_X13_winds) := mm_w1 8 30 rfl rfl
theorem cw_X13_lowAt : mm_Wk (mm_cw Y_X13_lowAt) := mm_w1 8 55 rfl rfl
theorem cw_X13_highAt : mm_Wk (mm_cw Y_X13_highAt) := mm_w1 8 51 rfl rfl
theorem cw_X13_pull : mm_Wk (mm_cw Y_X13_pull) := mm_w1 8 34 rfl rfl
theorem cw_X13_isSafe : mm_Wk (mm_cw Y_X13_isSafe) := mm_w1 8 47 rfl rfl
theorem cw_X13_surely : mm_Wk (mm_cw Y_X13_surely) := mm_w1 8 63 rfl rfl
theorem cw_X13_safe : mm_Wk (mm_cw Y_X13_safe) := mm_w1 8 43 rfl rfl
theorem cw_X13_gives : mm_Wk (mm_cw Y_X13_gives) := mm_w1 8 59 rfl rfl
theorem cw_X13_findSteps : mm_Wk (mm_cw Y_X13_findSteps) := mm_w1 8 81 rfl rfl
theorem cw_X13_findWalks : mm_Wk (mm_cw Y_X13_findWalks) := mm_w1 8 86 rfl rfl
theorem cw_X13_findMean : mm_Wk (mm_cw Y_X13_findMean) := mm_w1 8 94 rfl rfl
theorem cw_X13_lessMean : mm_Wk (mm_cw Y_X13_lessMean) := mm_w1 8 106 rfl rfl
theorem cw_X13_findHigh : mm_Wk (mm_cw Y_X13_findHigh) := mm_w1 8 102 rfl rfl
theorem cw_X13_isTight : mm_Wk (mm_cw Y_X13_isTight) := mm_w1 8 118 rfl rfl
theorem cw_X13_isTightStep : mm_Wk (mm_cw Y_X13_isTightStep) := mm_w1 8 114 rfl rfl
theorem cw_X13_findTight : mm_Wk (mm_cw Y_X13_findTight) := mm_w1 8 110 rfl rfl
theorem cw_X13_roundOf : mm_Wk (mm_cw Y_X13_roundOf) := mm_w1 8 123 rfl rfl
theorem cw_X13_leadsTo : mm_Wk (mm_cw Y_X13_leadsTo) := mm_w1 8 131 rfl rfl
theorem cw_X13_findFar : mm_Wk (mm_cw Y_X13_findFar) := mm_w1 8 127 rfl rfl
theorem cw_X13_findLoop : mm_Wk (mm_cw Y_X13_findLoop) := mm_w1 8 77 rfl rfl
theorem cw_X13_findActs : mm_Wk (mm_cw Y_X13_findActs) := mm_w1 8 98 rfl rfl
theorem cw_X13_isNext : mm_Wk (mm_cw Y_X13_isNext) := mm_w1 8 135 rfl rfl
theorem cw_X13_best : mm_Wk (mm_cw Y_X13_best) := mm_w1 8 73 rfl rfl
theorem cw_X13_looped : mm_Wk (mm_cw Y_X13_looped) := mm_w1 8 139 rfl rfl
theorem cw_X13_judge : mm_Wk (mm_cw Y_X13_judge) := mm_w1 8 144 rfl rfl
theorem cw_X13_judged : mm_Wk (mm_cw Y_X13_judged) := mm_w1 8 148 rfl rfl
theorem cw_X13_isSlot : mm_Wk (mm_cw Y_X13_isSlot) := mm_w1 8 155 rfl rfl
theorem cw_X13_keep : mm_Wk (mm_cw Y_X13_keep) := mm_w1 8 152 rfl rfl
theorem cw_X13_holds : mm_Wk (mm_cw Y_X13_holds) := mm_w1 8 173 rfl rfl
theorem cw_X13_actBy : mm_Wk (mm_cw Y_X13_actBy) := mm_w1 8 169 rfl rfl
theorem cw_X13_flyOn : mm_Wk (mm_cw Y_X13_flyOn) := mm_w1 8 165 rfl rfl
theorem cw_X13_fly : mm_Wk (mm_cw Y_X13_fly) := mm_w1 8 160 rfl rfl
theorem cw_X13_flown : mm_Wk (mm_cw Y_X13_flown) := mm_w1 8 177 rfl rfl
theorem cw_X13_held : mm_Wk (mm_cw Y_X13_held) := mm_w1 8 181 rfl rfl
theorem cw_X13_tired : mm_Wk (mm_cw Y_X13_tired) := mm_w1 8 185 rfl rfl
theorem cw_X13_isKept : mm_Wk (mm_cw Y_X13_isKept) := mm_w1 8 194 rfl rfl
theorem cw_X13_rounds : mm_Wk (mm_cw Y_X13_rounds) := mm_w1 8 190 rfl rfl
theorem cw_X13_plan : mm_Wk (mm_cw Y_X13_plan) := mm_w1 8 199 rfl rfl
theorem cw_X13_isCost : mm_Wk (mm_cw Y_X13_isCost) := mm_w1 8 202 rfl rfl
theorem cw_X13_planned : mm_Wk (mm_cw Y_X13_planned) := mm_w1 8 207 rfl rfl
theorem cw_X13_findStates : mm_Wk (mm_cw Y_X13_findStates) := mm_w1 8 224 rfl rfl
theorem cw_X13_leastApart : mm_Wk (mm_cw Y_X13_leastApart) := mm_w1 8 220 rfl rfl
theorem cw_X13_isSite : mm_Wk (mm_cw Y_X13_isSite) := mm_w1 8 214 rfl rfl
theorem cw_X13_apart : mm_Wk (mm_cw Y_X13_apart) := mm_w1 8 211 rfl rfl
theorem cw_X13_shift : mm_Wk (mm_cw Y_X13_shift) := mm_w1 8 229 rfl rfl
theorem cw_X13_stand : mm_Wk (mm_cw Y_X13_stand) := mm_w1 8 233 rfl rfl
theorem cw_X13_field : mm_Wk (mm_cw Y_X13_field) := mm_w1 8 237 rfl rfl
theorem cw_X13_fielded : mm_Wk (mm_cw Y_X13_fielded) := mm_w1 9 1 rfl rfl
theorem cw_X13_law : mm_Wk (mm_cw Y_X13_law) := mm_w1 9 5 rfl rfl
theorem cw_X13_breach : mm_Wk (mm_cw Y_X13_breach) := mm_w1 9 10 rfl rfl
theorem cw_X13_hidden : mm_Wk (mm_cw Y_X13_hidden) := mm_w1 9 15 rfl rfl
theorem cw_X13_pullBy : mm_Wk (mm_cw Y_X13_pullBy) := mm_w1 9 23 rfl rfl
theorem cw_X13_pulls : mm_Wk (mm_cw Y_X13_pulls) := mm_w1 9 19 rfl rfl
theorem cw_X13_arePulls : mm_Wk (mm_cw Y_X13_arePulls) := mm_w1 9 30 rfl rfl
theorem cw_X13_read : mm_Wk (mm_cw Y_X13_read) := mm_w1 9 27 rfl rfl
theorem cw_X13_right : mm_Wk (mm_cw Y_X13_right) := mm_w1 9 35 rfl rfl
theorem cw_X13_isSo : mm_Wk (mm_cw Y_X13_isSo) := mm_w1 9 47 rfl rfl
theorem cw_X13_fitOf : mm_Wk (mm_cw Y_X13_fitOf) := mm_w1 9 43 rfl rfl
theorem cw_X13_fit : mm_Wk (mm_cw Y_X13_fit) := mm_w1 9 39 rfl rfl
theorem cw_X13_next : mm_Wk (mm_cw Y_X13_next) := mm_w1 9 51 rfl rfl
theorem cw_X13_count : mm_Wk (mm_cw Y_X13_count) := mm_w1 9 55 rfl rfl
theorem cw_J6_bitCount_0f7a4 : mm_Wk (mm_cw Y_J6_bitCount_0f7a4) := mm_w1 5 97 rfl rfl
theorem cw_J9_abs_0f7a4 : mm_Wk (mm_cw Y_J9_abs_0f7a4) := mm_w1 4 220 rfl rfl
theorem cw_J9_max_7cf53 : mm_Wk (mm_cw Y_J9_max_7cf53) := mm_w1 0 98 rfl rfl
theorem cw_J9_max_f86c9 : mm_Wk (mm_cw Y_J9_max_f86c9) := mm_w1 8 90 rfl rfl
theorem cw_J9_min_7cf53 : mm_Wk (mm_cw Y_J9_min_7cf53) := mm_w1 0 101 rfl rfl
theorem cw_J0_length_8abf5 : mm_Wk (mm_cw Y_J0_length_8abf5) := mm_w1 2 137 rfl rfl
theorem cw_J0_charAt_5068e : mm_Wk (mm_cw Y_J0_charAt_5068e) := mm_w1 2 147 rfl rfl
theorem cw_J0_coder_7d493 : mm_Wk (mm_cw Y_J0_coder_7d493) := mm_w1 2 141 rfl rfl
theorem cw_J0_isLatin1_aae02 : mm_Wk (mm_cw Y_J0_isLatin1_aae02) := mm_w1 2 151 rfl rfl
theorem cw_J0_checkIndex_df160 : mm_Wk (mm_cw Y_J0_checkIndex_df160) := mm_w1 2 157 rfl rfl
theorem cw_J1_charAt_3b067 : mm_Wk (mm_cw Y_J1_charAt_3b067) := mm_w1 2 154 rfl rfl
theorem cw_J2_getChar_3b067 : mm_Wk (mm_cw Y_J2_getChar_3b067) := mm_w1 2 175 rfl rfl
theorem cw_J2_length_9d52b : mm_Wk (mm_cw Y_J2_length_9d52b) := mm_w1 2 171 rfl rfl
theorem cw_J2_charAt_3b067 : mm_Wk (mm_cw Y_J2_charAt_3b067) := mm_w1 2 165 rfl rfl
theorem cw_J2_checkIndex_2214a : mm_Wk (mm_cw Y_J2_checkIndex_2214a) := mm_w1 2 168 rfl rfl
theorem cw_J7_rangeCheck_23922 : mm_Wk (mm_cw Y_J7_rangeCheck_23922) := mm_w1 0 91 rfl rfl
theorem cw_J7_fill_53178 : mm_Wk (mm_cw Y_J7_fill_53178) := mm_w1 0 154 rfl rfl
theorem cw_J7_fill_fda19 : mm_Wk (mm_cw Y_J7_fill_fda19) := mm_w1 0 88 rfl rfl
theorem cw_J3_checkIndex_8e157 : mm_Wk (mm_cw Y_J3_checkIndex_8e157) := mm_w1 2 162 rfl rfl
theorem lk_X0_36 : mm_LS RX0 36 Y_J7_fill_53178 2 := ⟨⟨mm_w1 0 152 rfl rfl, cw_J7_fill_53178, by decide +kernel, ⟨by decide +kernel, by decide +kernel⟩, by decide +kernel⟩, mm_w1 0 153 rfl rfl, mm_w1 0 5 rfl rfl⟩
theorem lm_X0_42 : mm_LM RX0 42 Lib.Math.max.name (.code Lib.Math.max.name Lib.Math.max.code 2 (some .int)) := ⟨mm_w1 4 103 rfl rfl, mm_w1 0 97 rfl rfl, mm_w1 0 6 rfl rfl, mm_w1 0 98 (by decide +kernel) rfl⟩
theorem lk_X0_48 : mm_LS RX0 48 Y_X0_placeOf 2 := ⟨⟨mm_w1 3 103 rfl rfl, cw_X0_placeOf, by decide +kernel, ⟨by decide +kernel, by decide +kernel⟩, by decide +kernel⟩, mm_w1 3 104 rfl rfl, mm_w1 0 7 rfl rfl⟩
theorem lk_X0_61 : mm_LV RX0 61 Y_X0_highAt 0 2 := ⟨⟨mm_w1 3 157 rfl rfl, cw_X0_highAt, by decide +kernel, ⟨by decide +kernel, by decide +kernel⟩, by decide +kernel⟩, mm_w1 3 158 rfl rfl, RX0, TX0, 9, rfl, mm_w1 3 159 rfl rfl⟩
theorem lk_X0_64 : mm_LV RX0 64 Y_X0_lowAt 0 2 := ⟨⟨mm_w1 3 161 rfl rfl, cw_X0_lowAt, by decide +kernel, ⟨by decide +kernel, by decide +kernel⟩, by decide +kernel⟩, mm_w1 3 162 rfl rfl, RX0, TX0, 9, rfl, mm_w1 3 163 rfl rfl⟩
theorem lk_X0_67 : mm_LV RX0 67 Y_X0_windIn 0 3 := ⟨⟨mm_w1 3 153 rfl rfl, cw_X0_windIn, by decide +kernel, ⟨by decide +kernel, by decide +kernel⟩, by decide +kernel⟩, mm_w1 3 154 rfl rfl, RX0, TX0, 9, rfl, mm_w1 3 155 rfl rfl⟩
theorem lk_X0_71 : mm_LV RX0 71 Y_X4_pullOf 4 3 := ⟨⟨mm_w1 3 165 rfl rfl, cw_X4_pullOf, by decide +kernel, ⟨by decide +kernel, by decide +kernel⟩, by decide +kernel⟩, mm_w1 3 126 rfl rfl, RX4, TX4, 8, rfl, mm_w1 3 127 rfl rfl⟩
theorem lk_X0_75 : mm_LV RX0 75 Y_X4_goal 4 2 := ⟨⟨mm_w1 3 148 rfl rfl, cw_X4_goal, by decide +kernel, ⟨by decide +kernel, by decide +kernel⟩, by decide +kernel⟩, mm_w1 3 63 rfl rfl, RX4, TX4, 8, rfl, mm_w1 3 64 rfl rfl⟩
theorem lk_X0_78 : mm_LV RX0 78 Y_X0_pullBy 0 4 := ⟨⟨mm_w1 3 149 rfl rfl, cw_X0_pullBy, by decide +kernel, ⟨by decide +kernel, by decide +kernel⟩, by decide +kernel⟩, mm_w1 3 150 rfl rfl, RX0, TX0, 9, rfl, mm_w1 3 151 rfl rfl⟩
theorem lk_X0_82 : mm_LV RX0 82 Y_X4_bears 4 2 := ⟨⟨mm_w1 3 166 rfl rfl, cw_X4_bears, by decide +kernel, ⟨by decide +kernel, by decide +kernel⟩, by decide +kernel⟩, mm_w1 3 167 rfl rfl, RX4, TX4, 8, rfl, mm_w1 3 168 rfl rfl⟩
theorem lk_X0_86 : mm_LS RX0 86 Y_X4_drumOf 1 := ⟨⟨mm_w1 3 178 rfl rfl, cw_X4_drumOf, by decide +kernel, ⟨by decide +kernel, by decide +kernel⟩, by decide +kernel⟩, mm_w1 3 70 rfl rfl, mm_w1 0 3 rfl rfl⟩
theorem lk_X0_90 : mm_LV RX0 90 Y_X4_workOf 4 2 := ⟨⟨mm_w1 3 179 rfl rfl, cw_X4_workOf, by decide +kernel, ⟨by decide +kernel, by decide +kernel⟩, by decide +kernel⟩, mm_w1 3 180 rfl rfl, RX4, TX4, 8, rfl, mm_w1 3 181 rfl rfl⟩
theorem lk_X1_38 : mm_LV RX1 38 Y_X8_copyFrom 8 1 := ⟨⟨mm_w1 4 239 rfl rfl, cw_X8_copyFrom, by decide +kernel, ⟨by decide +kernel, by decide +kernel⟩, by decide +kernel⟩, mm_w1 3 201 rfl rfl, RX8, TX8, 10, rfl, mm_w1 3 202 rfl rfl⟩
theorem lk_X1_42 : mm_LV RX1 42 Y_X1_nearest 1 4 := ⟨⟨mm_w1 4 230 rfl rfl, cw_X1_nearest, by decide +kernel, ⟨by decide +kernel, by decide +kernel⟩, by decide +kernel⟩, mm_w1 4 211 rfl rfl, RX1, TX1, 6, rfl, mm_w1 4 212 rfl rfl⟩
theorem lk_X1_46 : mm_LV RX1 46 Y_X1_worthOf 1 1 := ⟨⟨mm_w1 5 8 rfl rfl, cw_X1_worthOf, by decide +kernel, ⟨by decide +kernel, by decide +kernel⟩, by decide +kernel⟩, mm_w1 5 10 rfl rfl, RX1, TX1, 6, rfl, mm_w0 33 rfl rfl⟩
theorem lm_X1_56 : mm_LM RX1 56 Lib.Math.max.name (.code Lib.Math.max.name Lib.Math.max.code 2 (some .int)) := ⟨mm_w1 4 214 rfl rfl, mm_w1 0 97 rfl rfl, mm_w1 0 6 rfl rfl, mm_w1 0 98 (by decide +kernel) rfl⟩
theorem lk_X1_62 : mm_LS RX1 62 Y_X1_sharedStep 2 := ⟨⟨mm_w1 4 215 rfl rfl, cw_X1_sharedStep, by decide +kernel, ⟨by decide +kernel, by decide +kernel⟩, by decide +kernel⟩, mm_w1 4 216 rfl rfl, mm_w1 0 13 rfl rfl⟩
theorem lm_X1_73 : mm_LM RX1 73 Lib.Math.abs.name (.code Lib.Math.abs.name Lib.Math.abs.code 1 (some .int)) := ⟨mm_w1 4 218 rfl rfl, mm_w1 4 219 rfl rfl, mm_w1 0 6 rfl rfl, mm_w1 4 220 (by decide +kernel) rfl⟩
theorem lm_X1_79 : mm_LM RX1 79 Lib.Math.min.name (.code Lib.Math.min.name Lib.Math.min.code 2 (some .int)) := ⟨mm_w1 4 221 rfl rfl, mm_w1 0 100 rfl rfl, mm_w1 0 6 rfl rfl, mm_w1 0 101 (by decide +kernel) rfl⟩
theorem lk_X2_56 : mm_LS RX2 56 Y_X0_hourOf 3 := ⟨⟨mm_w1 4 100 rfl rfl, cw_X0_hourOf, by decide +kernel, ⟨by decide +kernel, by decide +kernel⟩, by decide +kernel⟩, mm_w1 4 101 rfl rfl, mm_w1 0 7 rfl rfl⟩
theorem lk_X2_62 : mm_LV RX2 62 Y_X0_windIn 0 3 := ⟨⟨mm_w1 4 104 rfl rfl, cw_X0_windIn, by decide +kernel, ⟨by decide +kernel, by decide +kernel⟩, by decide +kernel⟩, mm_w1 3 154 rfl rfl, RX0, TX0, 9, rfl, mm_w1 3 155 rfl rfl⟩
theorem lk_X2_66 : mm_LV RX2 66 Y_X2_flyTick 2 1 := ⟨⟨mm_w1 4 105 rfl rfl, cw_X2_flyTick, by decide +kernel, ⟨by decide +kernel, by decide +kernel⟩, by decide +kernel⟩, mm_w1 4 107 rfl rfl, RX2, TX2, 12, rfl, mm_w0 27 rfl rfl⟩
theorem lk_X2_70 : mm_LV RX2 70 Y_X9_actFor 9 2 := ⟨⟨mm_w1 4 109 rfl rfl, cw_X9_actFor, by decide +kernel, ⟨by decide +kernel, by decide +kernel⟩, by decide +kernel⟩, mm_w1 4 110 rfl rfl, RX9, TX9, 4, rfl, mm_w1 4 111 rfl rfl⟩
theorem lk_X2_76 : mm_LV RX2 76 Y_X4_withinStates 4 2 := ⟨⟨mm_w1 4 122 rfl rfl, cw_X4_withinStates, by decide +kernel, ⟨by decide +kernel, by decide +kernel⟩, by decide +kernel⟩, mm_w1 4 123 rfl rfl, RX4, TX4, 8, rfl, mm_w1 4 124 rfl rfl⟩
theorem lk_X2_79 : mm_LV RX2 79 Y_X4_pullOf 4 3 := ⟨⟨mm_w1 4 126 rfl rfl, cw_X4_pullOf, by decide +kernel, ⟨by decide +kernel, by decide +kernel⟩, by decide +kernel⟩, mm_w1 3 126 rfl rfl, RX4, TX4, 8, rfl, mm_w1 3 127 rfl rfl⟩
theorem lk_X2_82 : mm_LV RX2 82 Y_X4_fateOf 4 1 := ⟨⟨mm_w1 4 127 rfl rfl, cw_X4_fateOf, by decide +kernel, ⟨by decide +kernel, by decide +kernel⟩, by decide +kernel⟩, mm_w1 4 128 rfl rfl, RX4, TX4, 8, rfl, mm_w1 4 129 rfl rfl⟩
theorem lk_X2_86 : mm_LS RX2 86 Y_X4_drumOf 1 := ⟨⟨mm_w1 4 131 rfl rfl, cw_X4_drumOf, by decide +kernel, ⟨by decide +kernel, by decide +kernel⟩, by decide +kernel⟩, mm_w1 3 70 rfl rfl, mm_w1 0 3 rfl rfl⟩
theorem lk_X2_89 : mm_LV RX2 89 Y_X4_workOf 4 2 := ⟨⟨mm_w1 4 132 rfl rfl, cw_X4_workOf, by decide +kernel, ⟨by decide +kernel, by decide +kernel⟩, by decide +kernel⟩, mm_w1 3 180 rfl rfl, RX4, TX4, 8, rfl, mm_w1 3 181 rfl rfl⟩
theorem lk_X2_92 : mm_LV RX2 92 Y_X4_goal 4 2 := ⟨⟨mm_w1 4 133 rfl rfl, cw_X4_goal, by decide +kernel, ⟨by decide +kernel, by decide +kernel⟩, by decide +kernel⟩, mm_w1 3 63 rfl rfl, RX4, TX4, 8, rfl, mm_w1 3 64 rfl rfl⟩
theorem lk_X2_95 : mm_LV RX2 95 Y_X2_markLost 2 2 := ⟨⟨mm_w1 4 146 rfl rfl, cw_X2_markLost, by decide +kernel, ⟨by decide +kernel, by decide +kernel⟩, by decide +kernel⟩, mm_w1 4 148 rfl rfl, RX2, TX2, 12, rfl, mm_w0 30 rfl rfl⟩
theorem lk_X3_61 : mm_LV RX3 61 Y_X3_foundAlike 3 1 := ⟨⟨mm_w1 3 192 rfl rfl, cw_X3_foundAlike, by decide +kernel, ⟨by decide +kernel, by decide +kernel⟩, by decide +kernel⟩, mm_w1 3 194 rfl rfl, RX3, TX3, 10, rfl, mm_w0 11 rfl rfl⟩
theorem lk_X3_65 : mm_LV RX3 65 Y_X8_copyFrom 8 1 := ⟨⟨mm_w1 3 200 rfl rfl, cw_X8_copyFrom, by decide +kernel, ⟨by decide +kernel, by decide +kernel⟩, by decide +kernel⟩, mm_w1 3 201 rfl rfl, RX8, TX8, 10, rfl, mm_w1 3 202 rfl rfl⟩
theorem lk_X3_69 : mm_LV RX3 69 Y_X6_find 6 2 := ⟨⟨mm_w1 3 206 rfl rfl, cw_X6_find, by decide +kernel, ⟨by decide +kernel, by decide +kernel⟩, by decide +kernel⟩, mm_w1 3 207 rfl rfl, RX6, TX6, 18, rfl, mm_w1 3 208 rfl rfl⟩
theorem lk_X3_73 : mm_LV RX3 73 Y_X0_isAlike 0 2 := ⟨⟨mm_w1 3 196 rfl rfl, cw_X0_isAlike, by decide +kernel, ⟨by decide +kernel, by decide +kernel⟩, by decide +kernel⟩, mm_w1 3 197 rfl rfl, RX0, TX0, 9, rfl, mm_w1 3 198 rfl rfl⟩
theorem lk_X3_77 : mm_LV RX3 77 Y_X3_loopAt 3 1 := ⟨⟨mm_w1 4 181 rfl rfl, cw_X3_loopAt, by decide +kernel, ⟨by decide +kernel, by decide +kernel⟩, by decide +kernel⟩, mm_w1 3 189 rfl rfl, RX3, TX3, 10, rfl, mm_w1 3 190 rfl rfl⟩
theorem lm_X3_87 : mm_LM RX3 87 Lib.Math.max.name (.code Lib.Math.max.name Lib.Math.max.code 2 (some .int)) := ⟨mm_w1 4 186 rfl rfl, mm_w1 0 97 rfl rfl, mm_w1 0 6 rfl rfl, mm_w1 0 98 (by decide +kernel) rfl⟩
theorem lk_X4_33 : mm_LV RX4 33 Y_X4_startDraft 4 0 := ⟨⟨mm_w1 0 77 rfl rfl, cw_X4_startDraft, by decide +kernel, ⟨by decide +kernel, by decide +kernel⟩, by decide +kernel⟩, mm_w1 0 79 rfl rfl, RX4, TX4, 8, rfl, mm_w0 0 rfl rfl⟩
theorem lk_X4_36 : mm_LV RX4 36 Y_X4_useDraft 4 0 := ⟨⟨mm_w1 0 92 rfl rfl, cw_X4_useDraft, by decide +kernel, ⟨by decide +kernel, by decide +kernel⟩, by decide +kernel⟩, mm_w1 0 94 rfl rfl, RX4, TX4, 8, rfl, mm_w0 1 rfl rfl⟩
theorem lk_X4_39 : mm_LV RX4 39 Y_X10_startText 10 0 := ⟨⟨mm_w1 2 100 rfl rfl, cw_X10_startText, by decide +kernel, ⟨by decide +kernel, by decide +kernel⟩, by decide +kernel⟩, mm_w1 2 101 rfl rfl, RX10, TX10, 8, rfl, mm_w1 2 102 rfl rfl⟩
theorem lk_X4_44 : mm_LV RX4 44 Y_X10_advance 10 0 := ⟨⟨mm_w1 2 104 rfl rfl, cw_X10_advance, by decide +kernel, ⟨by decide +kernel, by decide +kernel⟩, by decide +kernel⟩, mm_w1 2 105 rfl rfl, RX10, TX10, 8, rfl, mm_w1 2 106 rfl rfl⟩
theorem lk_X4_47 : mm_LV RX4 47 Y_X10_isAtEnd 10 0 := ⟨⟨mm_w1 2 125 rfl rfl, cw_X10_isAtEnd, by decide +kernel, ⟨by decide +kernel, by decide +kernel⟩, by decide +kernel⟩, mm_w1 2 126 rfl rfl, RX10, TX10, 8, rfl, mm_w1 2 127 rfl rfl⟩
theorem lk_X4_53 : mm_LV RX4 53 Y_X10_wordAmong 10 1 := ⟨⟨mm_w1 2 130 rfl rfl, cw_X10_wordAmong, by decide +kernel, ⟨by decide +kernel, by decide +kernel⟩, by decide +kernel⟩, mm_w1 2 131 rfl rfl, RX10, TX10, 8, rfl, mm_w1 2 132 rfl rfl⟩
theorem lk_X4_57 : mm_LV RX4 57 Y_X10_fails 10 1 := ⟨⟨mm_w1 2 182 rfl rfl, cw_X10_fails, by decide +kernel, ⟨by decide +kernel, by decide +kernel⟩, by decide +kernel⟩, mm_w1 2 183 rfl rfl, RX10, TX10, 8, rfl, mm_w1 2 184 rfl rfl⟩
theorem lk_X4_61 : mm_LV RX4 61 Y_X4_takeClause 4 2 := ⟨⟨mm_w1 2 186 rfl rfl, cw_X4_takeClause, by decide +kernel, ⟨by decide +kernel, by decide +kernel⟩, by decide +kernel⟩, mm_w1 2 188 rfl rfl, RX4, TX4, 8, rfl, mm_w0 4 rfl rfl⟩
theorem lk_X4_65 : mm_LV RX4 65 Y_X4_takeList 4 4 := ⟨⟨mm_w1 2 190 rfl rfl, cw_X4_takeList, by decide +kernel, ⟨by decide +kernel, by decide +kernel⟩, by decide +kernel⟩, mm_w1 2 192 rfl rfl, RX4, TX4, 8, rfl, mm_w0 5 rfl rfl⟩
theorem lk_X4_75 : mm_LV RX4 75 Y_X10_isNumberWithin 10 2 := ⟨⟨mm_w1 2 198 rfl rfl, cw_X10_isNumberWithin, by decide +kernel, ⟨by decide +kernel, by decide +kernel⟩, by decide +kernel⟩, mm_w1 2 199 rfl rfl, RX10, TX10, 8, rfl, mm_w1 2 200 rfl rfl⟩
theorem lk_X4_83 : mm_LV RX4 83 Y_X10_isSemicolon 10 0 := ⟨⟨mm_w1 2 194 rfl rfl, cw_X10_isSemicolon, by decide +kernel, ⟨by decide +kernel, by decide +kernel⟩, by decide +kernel⟩, mm_w1 2 195 rfl rfl, RX10, TX10, 8, rfl, mm_w1 2 196 rfl rfl⟩
theorem lk_X4_86 : mm_LS RX4 86 Y_J7_fill_fda19 4 := ⟨⟨mm_w1 0 86 rfl rfl, cw_J7_fill_fda19, by decide +kernel, ⟨by decide +kernel, by decide +kernel⟩, by decide +kernel⟩, mm_w1 0 87 rfl rfl, mm_w1 0 5 rfl rfl⟩
theorem la_X4_95 : mm_LA RX4 95 := ⟨mm_w1 0 83 rfl rfl, mm_w1 0 85 rfl rfl, mm_w1 0 84 rfl rfl, mm_w1 0 4 rfl rfl⟩
theorem lm_X4_101 : mm_LM RX4 101 Lib.Math.max.name (.code Lib.Math.max.name Lib.Math.max.code 2 (some .int)) := ⟨mm_w1 0 96 rfl rfl, mm_w1 0 97 rfl rfl, mm_w1 0 6 rfl rfl, mm_w1 0 98 (by decide +kernel) rfl⟩
theorem lm_X4_110 : mm_LM RX4 110 Lib.Math.min.name (.code Lib.Math.min.name Lib.Math.min.code 2 (some .int)) := ⟨mm_w1 0 99 rfl rfl, mm_w1 0 100 rfl rfl, mm_w1 0 6 rfl rfl, mm_w1 0 101 (by decide +kernel) rfl⟩
theorem lk_X4_117 : mm_LV RX4 117 Y_X4_actCount 4 0 := ⟨⟨mm_w1 3 58 rfl rfl, cw_X4_actCount, by decide +kernel, ⟨by decide +kernel, by decide +kernel⟩, by decide +kernel⟩, mm_w1 3 59 rfl rfl, RX4, TX4, 8, rfl, mm_w1 3 60 rfl rfl⟩
theorem lk_X4_121 : mm_LS RX4 121 Y_X4_moveOf 1 := ⟨⟨mm_w1 3 66 rfl rfl, cw_X4_moveOf, by decide +kernel, ⟨by decide +kernel, by decide +kernel⟩, by decide +kernel⟩, mm_w1 3 67 rfl rfl, mm_w1 0 3 rfl rfl⟩
theorem lk_X4_125 : mm_LS RX4 125 Y_X4_drumOf 1 := ⟨⟨mm_w1 3 69 rfl rfl, cw_X4_drumOf, by decide +kernel, ⟨by decide +kernel, by decide +kernel⟩, by decide +kernel⟩, mm_w1 3 70 rfl rfl, mm_w1 0 3 rfl rfl⟩
theorem lk_X4_128 : mm_LV RX4 128 Y_X4_canMove 4 2 := ⟨⟨mm_w1 3 72 rfl rfl, cw_X4_canMove, by decide +kernel, ⟨by decide +kernel, by decide +kernel⟩, by decide +kernel⟩, mm_w1 3 73 rfl rfl, RX4, TX4, 8, rfl, mm_w1 3 74 rfl rfl⟩
theorem lk_X4_131 : mm_LV RX4 131 Y_X4_canReel 4 2 := ⟨⟨mm_w1 3 76 rfl rfl, cw_X4_canReel, by decide +kernel, ⟨by decide +kernel, by decide +kernel⟩, by decide +kernel⟩, mm_w1 3 77 rfl rfl, RX4, TX4, 8, rfl, mm_w1 3 78 rfl rfl⟩
theorem lk_X4_134 : mm_LV RX4 134 Y_X4_moveStep 4 1 := ⟨⟨mm_w1 3 80 rfl rfl, cw_X4_moveStep, by decide +kernel, ⟨by decide +kernel, by decide +kernel⟩, by decide +kernel⟩, mm_w1 3 81 rfl rfl, RX4, TX4, 8, rfl, mm_w1 3 82 rfl rfl⟩
theorem lk_X4_137 : mm_LV RX4 137 Y_X4_drumStep 4 1 := ⟨⟨mm_w1 3 84 rfl rfl, cw_X4_drumStep, by decide +kernel, ⟨by decide +kernel, by decide +kernel⟩, by decide +kernel⟩, mm_w1 3 85 rfl rfl, RX4, TX4, 8, rfl, mm_w1 3 86 rfl rfl⟩
theorem lk_X4_140 : mm_LS RX4 140 Y_X4_isSideways 1 := ⟨⟨mm_w1 3 129 rfl rfl, cw_X4_isSideways, by decide +kernel, ⟨by decide +kernel, by decide +kernel⟩, by decide +kernel⟩, mm_w1 3 130 rfl rfl, mm_w1 0 3 rfl rfl⟩
theorem lk_X4_143 : mm_LV RX4 143 Y_X4_pullAt 4 4 := ⟨⟨mm_w1 3 132 rfl rfl, cw_X4_pullAt, by decide +kernel, ⟨by decide +kernel, by decide +kernel⟩, by decide +kernel⟩, mm_w1 3 133 rfl rfl, RX4, TX4, 8, rfl, mm_w1 3 134 rfl rfl⟩
theorem lk_X5_17 : mm_LS RX5 17 Y_J7_fill_53178 2 := ⟨⟨mm_w1 1 212 rfl rfl, cw_J7_fill_53178, by decide +kernel, ⟨by decide +kernel, by decide +kernel⟩, by decide +kernel⟩, mm_w1 0 153 rfl rfl, mm_w1 0 5 rfl rfl⟩
theorem lm_X5_23 : mm_LM RX5 23 Lib.Math.min.name (.code Lib.Math.min.name Lib.Math.min.code 2 (some .int)) := ⟨mm_w1 5 24 rfl rfl, mm_w1 0 100 rfl rfl, mm_w1 0 6 rfl rfl, mm_w1 0 101 (by decide +kernel) rfl⟩
theorem lk_X5_43 : mm_LS RX5 43 Y_X0_hourOf 3 := ⟨⟨mm_w1 5 33 rfl rfl, cw_X0_hourOf, by decide +kernel, ⟨by decide +kernel, by decide +kernel⟩, by decide +kernel⟩, mm_w1 4 101 rfl rfl, mm_w1 0 7 rfl rfl⟩
theorem lk_X6_69 : mm_LV RX6 69 Y_X6_weighOptions 6 1 := ⟨⟨mm_w1 3 210 rfl rfl, cw_X6_weighOptions, by decide +kernel, ⟨by decide +kernel, by decide +kernel⟩, by decide +kernel⟩, mm_w1 3 212 rfl rfl, RX6, TX6, 18, rfl, mm_w0 12 rfl rfl⟩
theorem lk_X6_73 : mm_LV RX6 73 Y_X6_drawPaths 6 0 := ⟨⟨mm_w1 3 232 rfl rfl, cw_X6_drawPaths, by decide +kernel, ⟨by decide +kernel, by decide +kernel⟩, by decide +kernel⟩, mm_w1 3 234 rfl rfl, RX6, TX6, 18, rfl, mm_w0 14 rfl rfl⟩
theorem lk_X6_86 : mm_LV RX6 86 Y_X6_takeBetterMean 6 0 := ⟨⟨mm_w1 4 7 rfl rfl, cw_X6_takeBetterMean, by decide +kernel, ⟨by decide +kernel, by decide +kernel⟩, by decide +kernel⟩, mm_w1 4 9 rfl rfl, RX6, TX6, 18, rfl, mm_w0 16 rfl rfl⟩
theorem lk_X6_90 : mm_LV RX6 90 Y_X6_keepTightPaths 6 0 := ⟨⟨mm_w1 4 27 rfl rfl, cw_X6_keepTightPaths, by decide +kernel, ⟨by decide +kernel, by decide +kernel⟩, by decide +kernel⟩, mm_w1 4 29 rfl rfl, RX6, TX6, 18, rfl, mm_w0 21 rfl rfl⟩
theorem lk_X6_93 : mm_LS RX6 93 Y_J7_fill_53178 2 := ⟨⟨mm_w1 3 214 rfl rfl, cw_J7_fill_53178, by decide +kernel, ⟨by decide +kernel, by decide +kernel⟩, by decide +kernel⟩, mm_w1 0 153 rfl rfl, mm_w1 0 5 rfl rfl⟩
theorem lk_X6_105 : mm_LV RX6 105 Y_X6_shortestFrom 6 2 := ⟨⟨mm_w1 4 31 rfl rfl, cw_X6_shortestFrom, by decide +kernel, ⟨by decide +kernel, by decide +kernel⟩, by decide +kernel⟩, mm_w1 4 33 rfl rfl, RX6, TX6, 18, rfl, mm_w0 22 rfl rfl⟩
theorem lk_X6_109 : mm_LV RX6 109 Y_X6_markWaysBack 6 2 := ⟨⟨mm_w1 4 35 rfl rfl, cw_X6_markWaysBack, by decide +kernel, ⟨by decide +kernel, by decide +kernel⟩, by decide +kernel⟩, mm_w1 4 37 rfl rfl, RX6, TX6, 18, rfl, mm_w0 23 rfl rfl⟩
theorem lk_X6_113 : mm_LV RX6 113 Y_X6_writeLoop 6 3 := ⟨⟨mm_w1 4 43 rfl rfl, cw_X6_writeLoop, by decide +kernel, ⟨by decide +kernel, by decide +kernel⟩, by decide +kernel⟩, mm_w1 4 45 rfl rfl, RX6, TX6, 18, rfl, mm_w0 25 rfl rfl⟩
theorem lk_X6_117 : mm_LV RX6 117 Y_X0_lowAt 0 2 := ⟨⟨mm_w1 3 215 rfl rfl, cw_X0_lowAt, by decide +kernel, ⟨by decide +kernel, by decide +kernel⟩, by decide +kernel⟩, mm_w1 3 162 rfl rfl, RX0, TX0, 9, rfl, mm_w1 3 163 rfl rfl⟩
theorem lk_X6_122 : mm_LV RX6 122 Y_X0_highAt 0 2 := ⟨⟨mm_w1 3 216 rfl rfl, cw_X0_highAt, by decide +kernel, ⟨by decide +kernel, by decide +kernel⟩, by decide +kernel⟩, mm_w1 3 158 rfl rfl, RX0, TX0, 9, rfl, mm_w1 3 159 rfl rfl⟩
theorem lk_X6_125 : mm_LV RX6 125 Y_X4_across 4 0 := ⟨⟨mm_w1 3 217 rfl rfl, cw_X4_across, by decide +kernel, ⟨by decide +kernel, by decide +kernel⟩, by decide +kernel⟩, mm_w1 3 218 rfl rfl, RX4, TX4, 8, rfl, mm_w1 3 219 rfl rfl⟩
theorem lk_X6_129 : mm_LS RX6 129 Y_X6_optionOf 3 := ⟨⟨mm_w1 3 221 rfl rfl, cw_X6_optionOf, by decide +kernel, ⟨by decide +kernel, by decide +kernel⟩, by decide +kernel⟩, mm_w1 3 222 rfl rfl, mm_w1 0 10 rfl rfl⟩
theorem lk_X6_133 : mm_LV RX6 133 Y_X6_weighOption 6 5 := ⟨⟨mm_w1 3 224 rfl rfl, cw_X6_weighOption, by decide +kernel, ⟨by decide +kernel, by decide +kernel⟩, by decide +kernel⟩, mm_w1 3 226 rfl rfl, RX6, TX6, 18, rfl, mm_w0 13 rfl rfl⟩
theorem lk_X6_137 : mm_LV RX6 137 Y_X4_slants 4 0 := ⟨⟨mm_w1 3 228 rfl rfl, cw_X4_slants, by decide +kernel, ⟨by decide +kernel, by decide +kernel⟩, by decide +kernel⟩, mm_w1 3 23 rfl rfl, RX4, TX4, 8, rfl, mm_w1 3 24 rfl rfl⟩
theorem lk_X6_139 : mm_LV RX6 139 Y_X4_pullAt 4 4 := ⟨⟨mm_w1 3 229 rfl rfl, cw_X4_pullAt, by decide +kernel, ⟨by decide +kernel, by decide +kernel⟩, by decide +kernel⟩, mm_w1 3 133 rfl rfl, RX4, TX4, 8, rfl, mm_w1 3 134 rfl rfl⟩
theorem lk_X6_143 : mm_LV RX6 143 Y_X4_bears 4 2 := ⟨⟨mm_w1 3 230 rfl rfl, cw_X4_bears, by decide +kernel, ⟨by decide +kernel, by decide +kernel⟩, by decide +kernel⟩, mm_w1 3 167 rfl rfl, RX4, TX4, 8, rfl, mm_w1 3 168 rfl rfl⟩
theorem lk_X6_147 : mm_LV RX6 147 Y_X4_workOf 4 2 := ⟨⟨mm_w1 3 231 rfl rfl, cw_X4_workOf, by decide +kernel, ⟨by decide +kernel, by decide +kernel⟩, by decide +kernel⟩, mm_w1 3 180 rfl rfl, RX4, TX4, 8, rfl, mm_w1 3 181 rfl rfl⟩
theorem lk_X6_153 : mm_LV RX6 153 Y_X4_canMove 4 2 := ⟨⟨mm_w1 3 236 rfl rfl, cw_X4_canMove, by decide +kernel, ⟨by decide +kernel, by decide +kernel⟩, by decide +kernel⟩, mm_w1 3 73 rfl rfl, RX4, TX4, 8, rfl, mm_w1 3 74 rfl rfl⟩
theorem lk_X6_159 : mm_LS RX6 159 Y_X4_isSideways 1 := ⟨⟨mm_w1 3 237 rfl rfl, cw_X4_isSideways, by decide +kernel, ⟨by decide +kernel, by decide +kernel⟩, by decide +kernel⟩, mm_w1 3 130 rfl rfl, mm_w1 0 3 rfl rfl⟩
theorem lk_X6_163 : mm_LV RX6 163 Y_X6_drawMove 6 4 := ⟨⟨mm_w1 3 238 rfl rfl, cw_X6_drawMove, by decide +kernel, ⟨by decide +kernel, by decide +kernel⟩, by decide +kernel⟩, mm_w1 4 0 rfl rfl, RX6, TX6, 18, rfl, mm_w0 15 rfl rfl⟩
theorem lk_X6_167 : mm_LV RX6 167 Y_X4_canReel 4 2 := ⟨⟨mm_w1 4 2 rfl rfl, cw_X4_canReel, by decide +kernel, ⟨by decide +kernel, by decide +kernel⟩, by decide +kernel⟩, mm_w1 3 77 rfl rfl, RX4, TX4, 8, rfl, mm_w1 3 78 rfl rfl⟩
theorem lk_X6_170 : mm_LV RX6 170 Y_X4_moveStep 4 1 := ⟨⟨mm_w1 4 3 rfl rfl, cw_X4_moveStep, by decide +kernel, ⟨by decide +kernel, by decide +kernel⟩, by decide +kernel⟩, mm_w1 3 81 rfl rfl, RX4, TX4, 8, rfl, mm_w1 3 82 rfl rfl⟩
theorem lk_X6_174 : mm_LV RX6 174 Y_X4_drumStep 4 1 := ⟨⟨mm_w1 4 4 rfl rfl, cw_X4_drumStep, by decide +kernel, ⟨by decide +kernel, by decide +kernel⟩, by decide +kernel⟩, mm_w1 3 85 rfl rfl, RX4, TX4, 8, rfl, mm_w1 3 86 rfl rfl⟩
theorem lk_X6_177 : mm_LV RX6 177 Y_X6_raiseLevels 6 0 := ⟨⟨mm_w1 4 11 rfl rfl, cw_X6_raiseLevels, by decide +kernel, ⟨by decide +kernel, by decide +kernel⟩, by decide +kernel⟩, mm_w1 4 13 rfl rfl, RX6, TX6, 18, rfl, mm_w0 17 rfl rfl⟩
theorem lk_X6_180 : mm_LV RX6 180 Y_X6_takeBestRing 6 0 := ⟨⟨mm_w1 4 19 rfl rfl, cw_X6_takeBestRing, by decide +kernel, ⟨by decide +kernel, by decide +kernel⟩, by decide +kernel⟩, mm_w1 4 21 rfl rfl, RX6, TX6, 18, rfl, mm_w0 19 rfl rfl⟩
theorem lk_X6_183 : mm_LV RX6 183 Y_X6_raiseFrom 6 1 := ⟨⟨mm_w1 4 15 rfl rfl, cw_X6_raiseFrom, by decide +kernel, ⟨by decide +kernel, by decide +kernel⟩, by decide +kernel⟩, mm_w1 4 17 rfl rfl, RX6, TX6, 18, rfl, mm_w0 18 rfl rfl⟩
theorem lk_X6_186 : mm_LV RX6 186 Y_X6_takeRing 6 1 := ⟨⟨mm_w1 4 23 rfl rfl, cw_X6_takeRing, by decide +kernel, ⟨by decide +kernel, by decide +kernel⟩, by decide +kernel⟩, mm_w1 4 25 rfl rfl, RX6, TX6, 18, rfl, mm_w0 20 rfl rfl⟩
theorem lk_X6_189 : mm_LV RX6 189 Y_X6_goesOn 6 4 := ⟨⟨mm_w1 4 39 rfl rfl, cw_X6_goesOn, by decide +kernel, ⟨by decide +kernel, by decide +kernel⟩, by decide +kernel⟩, mm_w1 4 41 rfl rfl, RX6, TX6, 18, rfl, mm_w0 24 rfl rfl⟩
theorem lk_X7_55 : mm_LV RX7 55 Y_X7_spanOf 7 2 := ⟨⟨mm_w1 5 76 rfl rfl, cw_X7_spanOf, by decide +kernel, ⟨by decide +kernel, by decide +kernel⟩, by decide +kernel⟩, mm_w1 5 78 rfl rfl, RX7, TX7, 13, rfl, mm_w0 35 rfl rfl⟩
theorem lk_X7_59 : mm_LV RX7 59 Y_X7_sharesOf 7 2 := ⟨⟨mm_w1 5 80 rfl rfl, cw_X7_sharesOf, by decide +kernel, ⟨by decide +kernel, by decide +kernel⟩, by decide +kernel⟩, mm_w1 5 82 rfl rfl, RX7, TX7, 13, rfl, mm_w0 36 rfl rfl⟩
theorem lk_X7_62 : mm_LV RX7 62 Y_X0_sharedPull 0 4 := ⟨⟨mm_w1 5 84 rfl rfl, cw_X0_sharedPull, by decide +kernel, ⟨by decide +kernel, by decide +kernel⟩, by decide +kernel⟩, mm_w1 5 43 rfl rfl, RX0, TX0, 9, rfl, mm_w1 5 44 rfl rfl⟩
theorem lk_X7_72 : mm_LV RX7 72 Y_X7_fittingShares 7 1 := ⟨⟨mm_w1 5 94 rfl rfl, cw_X7_fittingShares, by decide +kernel, ⟨by decide +kernel, by decide +kernel⟩, by decide +kernel⟩, mm_w1 5 72 rfl rfl, RX7, TX7, 13, rfl, mm_w1 5 73 rfl rfl⟩
theorem lk_X7_76 : mm_LS RX7 76 Y_J6_bitCount_0f7a4 1 := ⟨⟨mm_w1 5 95 rfl rfl, cw_J6_bitCount_0f7a4, by decide +kernel, ⟨by decide +kernel, by decide +kernel⟩, by decide +kernel⟩, mm_w1 5 96 rfl rfl, mm_w1 0 24 rfl rfl⟩
theorem lk_X7_81 : mm_LV RX7 81 Y_X4_actCount 4 0 := ⟨⟨mm_w1 5 101 rfl rfl, cw_X4_actCount, by decide +kernel, ⟨by decide +kernel, by decide +kernel⟩, by decide +kernel⟩, mm_w1 3 59 rfl rfl, RX4, TX4, 8, rfl, mm_w1 3 60 rfl rfl⟩
theorem lk_X7_87 : mm_LV RX7 87 Y_X4_goal 4 2 := ⟨⟨mm_w1 5 102 rfl rfl, cw_X4_goal, by decide +kernel, ⟨by decide +kernel, by decide +kernel⟩, by decide +kernel⟩, mm_w1 3 63 rfl rfl, RX4, TX4, 8, rfl, mm_w1 3 64 rfl rfl⟩
theorem lk_X7_90 : mm_LV RX7 90 Y_X7_greatestHeap 7 4 := ⟨⟨mm_w1 5 103 rfl rfl, cw_X7_greatestHeap, by decide +kernel, ⟨by decide +kernel, by decide +kernel⟩, by decide +kernel⟩, mm_w1 5 105 rfl rfl, RX7, TX7, 13, rfl, mm_w0 37 rfl rfl⟩
theorem lm_X7_93 : mm_LM RX7 93 Lib.Math.max.name (.code Lib.Math.max.name Lib.Math.max.code 2 (some .int)) := ⟨mm_w1 5 107 rfl rfl, mm_w1 0 97 rfl rfl, mm_w1 0 6 rfl rfl, mm_w1 0 98 (by decide +kernel) rfl⟩
theorem lm_X8_7 : mm_LM RX8 7 Lib.Math.max.name (.code Lib.Math.max.name Lib.Math.max.code 2 (some .int)) := ⟨mm_w1 1 41 rfl rfl, mm_w1 0 97 rfl rfl, mm_w1 0 6 rfl rfl, mm_w1 0 98 (by decide +kernel) rfl⟩
theorem lm_X8_26 : mm_LM RX8 26 Lib.Math.min.name (.code Lib.Math.min.name Lib.Math.min.code 2 (some .int)) := ⟨mm_w1 3 204 rfl rfl, mm_w1 0 100 rfl rfl, mm_w1 0 6 rfl rfl, mm_w1 0 101 (by decide +kernel) rfl⟩
theorem la_X8_29 : mm_LA RX8 29 := ⟨mm_w1 3 205 rfl rfl, mm_w1 0 85 rfl rfl, mm_w1 0 84 rfl rfl, mm_w1 0 4 rfl rfl⟩
theorem lk_X8_41 : mm_LV RX8 41 Y_X10_byteAt 10 1 := ⟨⟨mm_w1 4 64 rfl rfl, cw_X10_byteAt, by decide +kernel, ⟨by decide +kernel, by decide +kernel⟩, by decide +kernel⟩, mm_w1 4 65 rfl rfl, RX10, TX10, 8, rfl, mm_w1 4 66 rfl rfl⟩
theorem lk_X8_45 : mm_LV RX8 45 Y_X4_hasAct 4 1 := ⟨⟨mm_w1 4 68 rfl rfl, cw_X4_hasAct, by decide +kernel, ⟨by decide +kernel, by decide +kernel⟩, by decide +kernel⟩, mm_w1 3 55 rfl rfl, RX4, TX4, 8, rfl, mm_w1 3 56 rfl rfl⟩
theorem lk_X8_66 : mm_LV RX8 66 Y_X0_isSafe 0 3 := ⟨⟨mm_w1 4 73 rfl rfl, cw_X0_isSafe, by decide +kernel, ⟨by decide +kernel, by decide +kernel⟩, by decide +kernel⟩, mm_w1 3 145 rfl rfl, RX0, TX0, 9, rfl, mm_w1 3 146 rfl rfl⟩
theorem lk_X8_72 : mm_LV RX8 72 Y_X0_sureWork 0 3 := ⟨⟨mm_w1 4 74 rfl rfl, cw_X0_sureWork, by decide +kernel, ⟨by decide +kernel, by decide +kernel⟩, by decide +kernel⟩, mm_w1 3 175 rfl rfl, RX0, TX0, 9, rfl, mm_w1 3 176 rfl rfl⟩
theorem lk_X8_76 : mm_LS RX8 76 Y_X4_drumOf 1 := ⟨⟨mm_w1 4 75 rfl rfl, cw_X4_drumOf, by decide +kernel, ⟨by decide +kernel, by decide +kernel⟩, by decide +kernel⟩, mm_w1 3 70 rfl rfl, mm_w1 0 3 rfl rfl⟩
theorem lk_X8_79 : mm_LV RX8 79 Y_X0_pullBy 0 4 := ⟨⟨mm_w1 4 76 rfl rfl, cw_X0_pullBy, by decide +kernel, ⟨by decide +kernel, by decide +kernel⟩, by decide +kernel⟩, mm_w1 3 150 rfl rfl, RX0, TX0, 9, rfl, mm_w1 3 151 rfl rfl⟩
theorem lk_X8_83 : mm_LV RX8 83 Y_X4_goal 4 2 := ⟨⟨mm_w1 4 77 rfl rfl, cw_X4_goal, by decide +kernel, ⟨by decide +kernel, by decide +kernel⟩, by decide +kernel⟩, mm_w1 3 63 rfl rfl, RX4, TX4, 8, rfl, mm_w1 3 64 rfl rfl⟩
theorem lk_X8_90 : mm_LV RX8 90 Y_X4_tiringOf 4 1 := ⟨⟨mm_w1 4 163 rfl rfl, cw_X4_tiringOf, by decide +kernel, ⟨by decide +kernel, by decide +kernel⟩, by decide +kernel⟩, mm_w1 4 164 rfl rfl, RX4, TX4, 8, rfl, mm_w1 4 165 rfl rfl⟩
theorem lk_X9_26 : mm_LV RX9 26 Y_X10_startText 10 0 := ⟨⟨mm_w1 2 234 rfl rfl, cw_X10_startText, by decide +kernel, ⟨by decide +kernel, by decide +kernel⟩, by decide +kernel⟩, mm_w1 2 101 rfl rfl, RX10, TX10, 8, rfl, mm_w1 2 102 rfl rfl⟩
theorem lk_X9_31 : mm_LV RX9 31 Y_X10_advance 10 0 := ⟨⟨mm_w1 2 235 rfl rfl, cw_X10_advance, by decide +kernel, ⟨by decide +kernel, by decide +kernel⟩, by decide +kernel⟩, mm_w1 2 105 rfl rfl, RX10, TX10, 8, rfl, mm_w1 2 106 rfl rfl⟩
theorem lk_X9_34 : mm_LV RX9 34 Y_X10_isAtEnd 10 0 := ⟨⟨mm_w1 2 236 rfl rfl, cw_X10_isAtEnd, by decide +kernel, ⟨by decide +kernel, by decide +kernel⟩, by decide +kernel⟩, mm_w1 2 126 rfl rfl, RX10, TX10, 8, rfl, mm_w1 2 127 rfl rfl⟩
theorem la_X9_38 : mm_LA RX9 38 := ⟨mm_w1 2 237 rfl rfl, mm_w1 0 85 rfl rfl, mm_w1 0 84 rfl rfl, mm_w1 0 4 rfl rfl⟩
theorem lk_X9_44 : mm_LV RX9 44 Y_X9_takeLine 9 2 := ⟨⟨mm_w1 2 238 rfl rfl, cw_X9_takeLine, by decide +kernel, ⟨by decide +kernel, by decide +kernel⟩, by decide +kernel⟩, mm_w1 3 0 rfl rfl, RX9, TX9, 4, rfl, mm_w0 6 rfl rfl⟩
theorem lk_X9_50 : mm_LV RX9 50 Y_X10_wordAmong 10 1 := ⟨⟨mm_w1 3 3 rfl rfl, cw_X10_wordAmong, by decide +kernel, ⟨by decide +kernel, by decide +kernel⟩, by decide +kernel⟩, mm_w1 2 131 rfl rfl, RX10, TX10, 8, rfl, mm_w1 2 132 rfl rfl⟩
theorem lk_X9_54 : mm_LV RX9 54 Y_X10_fails 10 1 := ⟨⟨mm_w1 3 4 rfl rfl, cw_X10_fails, by decide +kernel, ⟨by decide +kernel, by decide +kernel⟩, by decide +kernel⟩, mm_w1 2 183 rfl rfl, RX10, TX10, 8, rfl, mm_w1 2 184 rfl rfl⟩
theorem lk_X9_58 : mm_LV RX9 58 Y_X9_takeConds 9 2 := ⟨⟨mm_w1 3 5 rfl rfl, cw_X9_takeConds, by decide +kernel, ⟨by decide +kernel, by decide +kernel⟩, by decide +kernel⟩, mm_w1 3 7 rfl rfl, RX9, TX9, 4, rfl, mm_w0 7 rfl rfl⟩
theorem lk_X9_61 : mm_LV RX9 61 Y_X9_takeAct 9 2 := ⟨⟨mm_w1 3 18 rfl rfl, cw_X9_takeAct, by decide +kernel, ⟨by decide +kernel, by decide +kernel⟩, by decide +kernel⟩, mm_w1 3 20 rfl rfl, RX9, TX9, 4, rfl, mm_w0 9 rfl rfl⟩
theorem lk_X9_64 : mm_LV RX9 64 Y_X9_takeCond 9 2 := ⟨⟨mm_w1 3 9 rfl rfl, cw_X9_takeCond, by decide +kernel, ⟨by decide +kernel, by decide +kernel⟩, by decide +kernel⟩, mm_w1 3 11 rfl rfl, RX9, TX9, 4, rfl, mm_w0 8 rfl rfl⟩
theorem lk_X9_74 : mm_LV RX9 74 Y_X10_isNumberWithin 10 2 := ⟨⟨mm_w1 3 16 rfl rfl, cw_X10_isNumberWithin, by decide +kernel, ⟨by decide +kernel, by decide +kernel⟩, by decide +kernel⟩, mm_w1 2 199 rfl rfl, RX10, TX10, 8, rfl, mm_w1 2 200 rfl rfl⟩
theorem lk_X9_81 : mm_LV RX9 81 Y_X4_slants 4 0 := ⟨⟨mm_w1 3 22 rfl rfl, cw_X4_slants, by decide +kernel, ⟨by decide +kernel, by decide +kernel⟩, by decide +kernel⟩, mm_w1 3 23 rfl rfl, RX4, TX4, 8, rfl, mm_w1 3 24 rfl rfl⟩
theorem lk_X9_91 : mm_LV RX9 91 Y_X10_isSemicolon 10 0 := ⟨⟨mm_w1 3 28 rfl rfl, cw_X10_isSemicolon, by decide +kernel, ⟨by decide +kernel, by decide +kernel⟩, by decide +kernel⟩, mm_w1 2 195 rfl rfl, RX10, TX10, 8, rfl, mm_w1 2 196 rfl rfl⟩
theorem lk_X9_94 : mm_LV RX9 94 Y_X9_holds 9 3 := ⟨⟨mm_w1 4 113 rfl rfl, cw_X9_holds, by decide +kernel, ⟨by decide +kernel, by decide +kernel⟩, by decide +kernel⟩, mm_w1 4 115 rfl rfl, RX9, TX9, 4, rfl, mm_w0 28 rfl rfl⟩
theorem lk_X9_98 : mm_LV RX9 98 Y_X9_valueOf 9 3 := ⟨⟨mm_w1 4 117 rfl rfl, cw_X9_valueOf, by decide +kernel, ⟨by decide +kernel, by decide +kernel⟩, by decide +kernel⟩, mm_w1 4 119 rfl rfl, RX9, TX9, 4, rfl, mm_w0 29 rfl rfl⟩
theorem lk_X9_102 : mm_LV RX9 102 Y_X4_pullOf 4 3 := ⟨⟨mm_w1 4 121 rfl rfl, cw_X4_pullOf, by decide +kernel, ⟨by decide +kernel, by decide +kernel⟩, by decide +kernel⟩, mm_w1 3 126 rfl rfl, RX4, TX4, 8, rfl, mm_w1 3 127 rfl rfl⟩
theorem lk_X10_28 : mm_LS RX10 28 Y_X10_isBlank 1 := ⟨⟨mm_w1 2 108 rfl rfl, cw_X10_isBlank, by decide +kernel, ⟨by decide +kernel, by decide +kernel⟩, by decide +kernel⟩, mm_w1 2 109 rfl rfl, mm_w1 0 2 rfl rfl⟩
theorem lk_X10_38 : mm_LS RX10 38 Y_X10_isLetter 1 := ⟨⟨mm_w1 2 111 rfl rfl, cw_X10_isLetter, by decide +kernel, ⟨by decide +kernel, by decide +kernel⟩, by decide +kernel⟩, mm_w1 2 112 rfl rfl, mm_w1 0 2 rfl rfl⟩
theorem lk_X10_41 : mm_LV RX10 41 Y_X10_takeWord 10 0 := ⟨⟨mm_w1 2 114 rfl rfl, cw_X10_takeWord, by decide +kernel, ⟨by decide +kernel, by decide +kernel⟩, by decide +kernel⟩, mm_w1 2 116 rfl rfl, RX10, TX10, 8, rfl, mm_w0 2 rfl rfl⟩
theorem lk_X10_44 : mm_LS RX10 44 Y_X10_isDigit 1 := ⟨⟨mm_w1 2 118 rfl rfl, cw_X10_isDigit, by decide +kernel, ⟨by decide +kernel, by decide +kernel⟩, by decide +kernel⟩, mm_w1 2 119 rfl rfl, mm_w1 0 2 rfl rfl⟩
theorem lk_X10_47 : mm_LV RX10 47 Y_X10_takeNumber 10 0 := ⟨⟨mm_w1 2 121 rfl rfl, cw_X10_takeNumber, by decide +kernel, ⟨by decide +kernel, by decide +kernel⟩, by decide +kernel⟩, mm_w1 2 123 rfl rfl, RX10, TX10, 8, rfl, mm_w0 3 rfl rfl⟩
theorem lk_X10_62 : mm_LV RX10 62 Y_X10_fails 10 1 := ⟨⟨mm_w1 2 202 rfl rfl, cw_X10_fails, by decide +kernel, ⟨by decide +kernel, by decide +kernel⟩, by decide +kernel⟩, mm_w1 2 183 rfl rfl, RX10, TX10, 8, rfl, mm_w1 2 184 rfl rfl⟩
theorem lk_X11_98 : mm_LV RX11 98 Y_X10_hasRoom 10 1 := ⟨⟨mm_w1 2 80 rfl rfl, cw_X10_hasRoom, by decide +kernel, ⟨by decide +kernel, by decide +kernel⟩, by decide +kernel⟩, mm_w1 2 81 rfl rfl, RX10, TX10, 8, rfl, mm_w1 2 82 rfl rfl⟩
theorem lk_X11_102 : mm_LV RX11 102 Y_X10_addInt 10 1 := ⟨⟨mm_w1 2 84 rfl rfl, cw_X10_addInt, by decide +kernel, ⟨by decide +kernel, by decide +kernel⟩, by decide +kernel⟩, mm_w1 2 85 rfl rfl, RX10, TX10, 8, rfl, mm_w1 2 86 rfl rfl⟩
theorem lk_X11_108 : mm_LV RX11 108 Y_X4_takeText 4 1 := ⟨⟨mm_w1 2 96 rfl rfl, cw_X4_takeText, by decide +kernel, ⟨by decide +kernel, by decide +kernel⟩, by decide +kernel⟩, mm_w1 2 97 rfl rfl, RX4, TX4, 8, rfl, mm_w1 2 98 rfl rfl⟩
theorem lk_X11_112 : mm_LV RX11 112 Y_X9_forget 9 0 := ⟨⟨mm_w1 2 210 rfl rfl, cw_X9_forget, by decide +kernel, ⟨by decide +kernel, by decide +kernel⟩, by decide +kernel⟩, mm_w1 2 211 rfl rfl, RX9, TX9, 4, rfl, mm_w1 2 212 rfl rfl⟩
theorem lk_X11_120 : mm_LV RX11 120 Y_X1_forget 1 0 := ⟨⟨mm_w1 2 214 rfl rfl, cw_X1_forget, by decide +kernel, ⟨by decide +kernel, by decide +kernel⟩, by decide +kernel⟩, mm_w1 2 215 rfl rfl, RX1, TX1, 6, rfl, mm_w1 2 216 rfl rfl⟩
theorem lk_X11_121 : mm_LV RX11 121 Y_X7_forget 7 0 := ⟨⟨mm_w1 2 218 rfl rfl, cw_X7_forget, by decide +kernel, ⟨by decide +kernel, by decide +kernel⟩, by decide +kernel⟩, mm_w1 2 219 rfl rfl, RX7, TX7, 13, rfl, mm_w1 2 220 rfl rfl⟩
theorem lk_X11_122 : mm_LV RX11 122 Y_X3_forgetAll 3 0 := ⟨⟨mm_w1 2 222 rfl rfl, cw_X3_forgetAll, by decide +kernel, ⟨by decide +kernel, by decide +kernel⟩, by decide +kernel⟩, mm_w1 2 223 rfl rfl, RX3, TX3, 10, rfl, mm_w1 2 224 rfl rfl⟩
theorem lk_X11_125 : mm_LV RX11 125 Y_X9_takeText 9 1 := ⟨⟨mm_w1 2 230 rfl rfl, cw_X9_takeText, by decide +kernel, ⟨by decide +kernel, by decide +kernel⟩, by decide +kernel⟩, mm_w1 2 231 rfl rfl, RX9, TX9, 4, rfl, mm_w1 2 232 rfl rfl⟩
theorem lk_X11_135 : mm_LV RX11 135 Y_X4_fact 4 1 := ⟨⟨mm_w1 3 37 rfl rfl, cw_X4_fact, by decide +kernel, ⟨by decide +kernel, by decide +kernel⟩, by decide +kernel⟩, mm_w1 3 38 rfl rfl, RX4, TX4, 8, rfl, mm_w1 3 39 rfl rfl⟩
theorem lk_X11_139 : mm_LV RX11 139 Y_X4_hasState 4 1 := ⟨⟨mm_w1 3 46 rfl rfl, cw_X4_hasState, by decide +kernel, ⟨by decide +kernel, by decide +kernel⟩, by decide +kernel⟩, mm_w1 3 47 rfl rfl, RX4, TX4, 8, rfl, mm_w1 3 48 rfl rfl⟩
theorem lk_X11_158 : mm_LV RX11 158 Y_X4_hasAct 4 1 := ⟨⟨mm_w1 3 54 rfl rfl, cw_X4_hasAct, by decide +kernel, ⟨by decide +kernel, by decide +kernel⟩, by decide +kernel⟩, mm_w1 3 55 rfl rfl, RX4, TX4, 8, rfl, mm_w1 3 56 rfl rfl⟩
theorem lk_X11_161 : mm_LV RX11 161 Y_X4_goal 4 2 := ⟨⟨mm_w1 3 62 rfl rfl, cw_X4_goal, by decide +kernel, ⟨by decide +kernel, by decide +kernel⟩, by decide +kernel⟩, mm_w1 3 63 rfl rfl, RX4, TX4, 8, rfl, mm_w1 3 64 rfl rfl⟩
theorem lk_X11_165 : mm_LS RX11 165 Y_X11_isHour 1 := ⟨⟨mm_w1 3 92 rfl rfl, cw_X11_isHour, by decide +kernel, ⟨by decide +kernel, by decide +kernel⟩, by decide +kernel⟩, mm_w1 3 93 rfl rfl, mm_w1 0 1 rfl rfl⟩
theorem lk_X11_168 : mm_LS RX11 168 Y_X11_isBand 1 := ⟨⟨mm_w1 3 96 rfl rfl, cw_X11_isBand, by decide +kernel, ⟨by decide +kernel, by decide +kernel⟩, by decide +kernel⟩, mm_w1 3 97 rfl rfl, mm_w1 0 1 rfl rfl⟩
theorem lk_X11_171 : mm_LS RX11 171 Y_X11_isWithin 3 := ⟨⟨mm_w1 3 95 rfl rfl, cw_X11_isWithin, by decide +kernel, ⟨by decide +kernel, by decide +kernel⟩, by decide +kernel⟩, mm_w1 2 204 rfl rfl, mm_w1 0 1 rfl rfl⟩
theorem lk_X11_181 : mm_LV RX11 181 Y_X0_take 0 5 := ⟨⟨mm_w1 3 99 rfl rfl, cw_X0_take, by decide +kernel, ⟨by decide +kernel, by decide +kernel⟩, by decide +kernel⟩, mm_w1 3 100 rfl rfl, RX0, TX0, 9, rfl, mm_w1 3 101 rfl rfl⟩
theorem lk_X11_185 : mm_LV RX11 185 Y_X3_forgetHour 3 1 := ⟨⟨mm_w1 3 106 rfl rfl, cw_X3_forgetHour, by decide +kernel, ⟨by decide +kernel, by decide +kernel⟩, by decide +kernel⟩, mm_w1 3 107 rfl rfl, RX3, TX3, 10, rfl, mm_w1 3 108 rfl rfl⟩
theorem lk_X11_188 : mm_LS RX11 188 Y_X11_isStep 1 := ⟨⟨mm_w1 3 114 rfl rfl, cw_X11_isStep, by decide +kernel, ⟨by decide +kernel, by decide +kernel⟩, by decide +kernel⟩, mm_w1 3 115 rfl rfl, mm_w1 0 1 rfl rfl⟩
theorem lk_X11_191 : mm_LV RX11 191 Y_X0_knownAt 0 3 := ⟨⟨mm_w1 3 117 rfl rfl, cw_X0_knownAt, by decide +kernel, ⟨by decide +kernel, by decide +kernel⟩, by decide +kernel⟩, mm_w1 3 118 rfl rfl, RX0, TX0, 9, rfl, mm_w1 3 119 rfl rfl⟩
theorem lk_X11_195 : mm_LV RX11 195 Y_X4_pullOf 4 3 := ⟨⟨mm_w1 3 125 rfl rfl, cw_X4_pullOf, by decide +kernel, ⟨by decide +kernel, by decide +kernel⟩, by decide +kernel⟩, mm_w1 3 126 rfl rfl, RX4, TX4, 8, rfl, mm_w1 3 127 rfl rfl⟩
theorem lk_X11_198 : mm_LV RX11 198 Y_X11_canAsk 11 3 := ⟨⟨mm_w1 3 140 rfl rfl, cw_X11_canAsk, by decide +kernel, ⟨by decide +kernel, by decide +kernel⟩, by decide +kernel⟩, mm_w1 3 142 rfl rfl, RX11, TX11, 15, rfl, mm_w0 10 rfl rfl⟩
theorem lk_X11_201 : mm_LV RX11 201 Y_X0_isSafe 0 3 := ⟨⟨mm_w1 3 144 rfl rfl, cw_X0_isSafe, by decide +kernel, ⟨by decide +kernel, by decide +kernel⟩, by decide +kernel⟩, mm_w1 3 145 rfl rfl, RX0, TX0, 9, rfl, mm_w1 3 146 rfl rfl⟩
theorem lk_X11_204 : mm_LV RX11 204 Y_X0_sureWork 0 3 := ⟨⟨mm_w1 3 174 rfl rfl, cw_X0_sureWork, by decide +kernel, ⟨by decide +kernel, by decide +kernel⟩, by decide +kernel⟩, mm_w1 3 175 rfl rfl, RX0, TX0, 9, rfl, mm_w1 3 176 rfl rfl⟩
theorem lk_X11_208 : mm_LV RX11 208 Y_X3_loopAt 3 1 := ⟨⟨mm_w1 3 188 rfl rfl, cw_X3_loopAt, by decide +kernel, ⟨by decide +kernel, by decide +kernel⟩, by decide +kernel⟩, mm_w1 3 189 rfl rfl, RX3, TX3, 10, rfl, mm_w1 3 190 rfl rfl⟩
theorem lk_X11_212 : mm_LV RX11 212 Y_X8_copyFrom 8 1 := ⟨⟨mm_w1 4 47 rfl rfl, cw_X8_copyFrom, by decide +kernel, ⟨by decide +kernel, by decide +kernel⟩, by decide +kernel⟩, mm_w1 3 201 rfl rfl, RX8, TX8, 10, rfl, mm_w1 3 202 rfl rfl⟩
theorem lk_X11_225 : mm_LV RX11 225 Y_X11_judgeTape 11 2 := ⟨⟨mm_w1 4 56 rfl rfl, cw_X11_judgeTape, by decide +kernel, ⟨by decide +kernel, by decide +kernel⟩, by decide +kernel⟩, mm_w1 4 58 rfl rfl, RX11, TX11, 15, rfl, mm_w0 26 rfl rfl⟩
theorem lk_X11_228 : mm_LV RX11 228 Y_X8_takeActs 8 2 := ⟨⟨mm_w1 4 60 rfl rfl, cw_X8_takeActs, by decide +kernel, ⟨by decide +kernel, by decide +kernel⟩, by decide +kernel⟩, mm_w1 4 61 rfl rfl, RX8, TX8, 10, rfl, mm_w1 4 62 rfl rfl⟩
theorem lk_X11_232 : mm_LV RX11 232 Y_X8_walk 8 4 := ⟨⟨mm_w1 4 69 rfl rfl, cw_X8_walk, by decide +kernel, ⟨by decide +kernel, by decide +kernel⟩, by decide +kernel⟩, mm_w1 4 70 rfl rfl, RX8, TX8, 10, rfl, mm_w1 4 71 rfl rfl⟩
theorem lk_X11_254 : mm_LS RX11 254 Y_X11_isSlot 1 := ⟨⟨mm_w1 4 86 rfl rfl, cw_X11_isSlot, by decide +kernel, ⟨by decide +kernel, by decide +kernel⟩, by decide +kernel⟩, mm_w1 4 87 rfl rfl, mm_w1 0 1 rfl rfl⟩
theorem lk_X11_257 : mm_LS RX11 257 Y_X11_isEach 1 := ⟨⟨mm_w1 4 93 rfl rfl, cw_X11_isEach, by decide +kernel, ⟨by decide +kernel, by decide +kernel⟩, by decide +kernel⟩, mm_w1 4 94 rfl rfl, mm_w1 0 1 rfl rfl⟩
theorem lk_X11_260 : mm_LV RX11 260 Y_X2_run 2 5 := ⟨⟨mm_w1 4 96 rfl rfl, cw_X2_run, by decide +kernel, ⟨by decide +kernel, by decide +kernel⟩, by decide +kernel⟩, mm_w1 4 97 rfl rfl, RX2, TX2, 12, rfl, mm_w1 4 98 rfl rfl⟩
theorem lk_X11_278 : mm_LV RX11 278 Y_X2_countHeld 2 1 := ⟨⟨mm_w1 4 142 rfl rfl, cw_X2_countHeld, by decide +kernel, ⟨by decide +kernel, by decide +kernel⟩, by decide +kernel⟩, mm_w1 4 143 rfl rfl, RX2, TX2, 12, rfl, mm_w1 4 144 rfl rfl⟩
theorem lk_X11_285 : mm_LV RX11 285 Y_X8_tiring 8 3 := ⟨⟨mm_w1 4 159 rfl rfl, cw_X8_tiring, by decide +kernel, ⟨by decide +kernel, by decide +kernel⟩, by decide +kernel⟩, mm_w1 4 160 rfl rfl, RX8, TX8, 10, rfl, mm_w1 4 161 rfl rfl⟩
theorem lm_X11_290 : mm_LM RX11 290 Lib.Math.min.name (.code Lib.Math.min.name Lib.Math.min.code 2 (some .int)) := ⟨mm_w1 4 168 rfl rfl, mm_w1 0 100 rfl rfl, mm_w1 0 6 rfl rfl, mm_w1 0 101 (by decide +kernel) rfl⟩
theorem lk_X11_295 : mm_LS RX11 295 Y_X11_isCost 1 := ⟨⟨mm_w1 4 173 rfl rfl, cw_X11_isCost, by decide +kernel, ⟨by decide +kernel, by decide +kernel⟩, by decide +kernel⟩, mm_w1 4 174 rfl rfl, mm_w1 0 1 rfl rfl⟩
theorem lk_X11_299 : mm_LV RX11 299 Y_X3_weigh 3 4 := ⟨⟨mm_w1 4 177 rfl rfl, cw_X3_weigh, by decide +kernel, ⟨by decide +kernel, by decide +kernel⟩, by decide +kernel⟩, mm_w1 4 178 rfl rfl, RX3, TX3, 10, rfl, mm_w1 4 179 rfl rfl⟩
theorem lk_X11_303 : mm_LV RX11 303 Y_X3_choose 3 2 := ⟨⟨mm_w1 4 182 rfl rfl, cw_X3_choose, by decide +kernel, ⟨by decide +kernel, by decide +kernel⟩, by decide +kernel⟩, mm_w1 4 183 rfl rfl, RX3, TX3, 10, rfl, mm_w1 4 184 rfl rfl⟩
theorem lk_X11_306 : mm_LV RX11 306 Y_X3_isPlanned 3 1 := ⟨⟨mm_w1 4 191 rfl rfl, cw_X3_isPlanned, by decide +kernel, ⟨by decide +kernel, by decide +kernel⟩, by decide +kernel⟩, mm_w1 4 192 rfl rfl, RX3, TX3, 10, rfl, mm_w1 4 193 rfl rfl⟩
theorem lk_X11_312 : mm_LV RX11 312 Y_X11_canPair 11 4 := ⟨⟨mm_w1 4 199 rfl rfl, cw_X11_canPair, by decide +kernel, ⟨by decide +kernel, by decide +kernel⟩, by decide +kernel⟩, mm_w1 4 201 rfl rfl, RX11, TX11, 15, rfl, mm_w0 31 rfl rfl⟩
theorem lk_X11_316 : mm_LV RX11 316 Y_X11_areKept 11 2 := ⟨⟨mm_w1 4 206 rfl rfl, cw_X11_areKept, by decide +kernel, ⟨by decide +kernel, by decide +kernel⟩, by decide +kernel⟩, mm_w1 4 208 rfl rfl, RX11, TX11, 15, rfl, mm_w0 32 rfl rfl⟩
theorem lk_X11_320 : mm_LV RX11 320 Y_X1_nearest 1 4 := ⟨⟨mm_w1 4 210 rfl rfl, cw_X1_nearest, by decide +kernel, ⟨by decide +kernel, by decide +kernel⟩, by decide +kernel⟩, mm_w1 4 211 rfl rfl, RX1, TX1, 6, rfl, mm_w1 4 212 rfl rfl⟩
theorem lk_X11_324 : mm_LV RX11 324 Y_X1_bestShift 1 3 := ⟨⟨mm_w1 4 226 rfl rfl, cw_X1_bestShift, by decide +kernel, ⟨by decide +kernel, by decide +kernel⟩, by decide +kernel⟩, mm_w1 4 227 rfl rfl, RX1, TX1, 6, rfl, mm_w1 4 228 rfl rfl⟩
theorem lk_X11_328 : mm_LS RX11 328 Y_X11_isSite 1 := ⟨⟨mm_w1 4 203 rfl rfl, cw_X11_isSite, by decide +kernel, ⟨by decide +kernel, by decide +kernel⟩, by decide +kernel⟩, mm_w1 4 204 rfl rfl, mm_w1 0 1 rfl rfl⟩
theorem lk_X11_332 : mm_LV RX11 332 Y_X1_add 1 2 := ⟨⟨mm_w1 4 235 rfl rfl, cw_X1_add, by decide +kernel, ⟨by decide +kernel, by decide +kernel⟩, by decide +kernel⟩, mm_w1 4 236 rfl rfl, RX1, TX1, 6, rfl, mm_w1 4 237 rfl rfl⟩
theorem lk_X11_336 : mm_LV RX11 336 Y_X1_chooseBest 1 0 := ⟨⟨mm_w1 5 4 rfl rfl, cw_X1_chooseBest, by decide +kernel, ⟨by decide +kernel, by decide +kernel⟩, by decide +kernel⟩, mm_w1 5 5 rfl rfl, RX1, TX1, 6, rfl, mm_w1 5 6 rfl rfl⟩
theorem lk_X11_344 : mm_LV RX11 344 Y_X5_add 5 3 := ⟨⟨mm_w1 5 20 rfl rfl, cw_X5_add, by decide +kernel, ⟨by decide +kernel, by decide +kernel⟩, by decide +kernel⟩, mm_w1 5 21 rfl rfl, RX5, TX5, 2, rfl, mm_w1 5 22 rfl rfl⟩
theorem lk_X11_346 : mm_LV RX11 346 Y_X5_firstBreach 5 5 := ⟨⟨mm_w1 5 29 rfl rfl, cw_X5_firstBreach, by decide +kernel, ⟨by decide +kernel, by decide +kernel⟩, by decide +kernel⟩, mm_w1 5 30 rfl rfl, RX5, TX5, 2, rfl, mm_w1 5 31 rfl rfl⟩
theorem lk_X11_350 : mm_LV RX11 350 Y_X0_sharedPull 0 4 := ⟨⟨mm_w1 5 42 rfl rfl, cw_X0_sharedPull, by decide +kernel, ⟨by decide +kernel, by decide +kernel⟩, by decide +kernel⟩, mm_w1 5 43 rfl rfl, RX0, TX0, 9, rfl, mm_w1 5 44 rfl rfl⟩
theorem lk_X11_354 : mm_LV RX11 354 Y_X11_canRead 11 3 := ⟨⟨mm_w1 5 50 rfl rfl, cw_X11_canRead, by decide +kernel, ⟨by decide +kernel, by decide +kernel⟩, by decide +kernel⟩, mm_w1 5 52 rfl rfl, RX11, TX11, 15, rfl, mm_w0 34 rfl rfl⟩
theorem lk_X11_358 : mm_LV RX11 358 Y_X7_add 7 6 := ⟨⟨mm_w1 5 55 rfl rfl, cw_X7_add, by decide +kernel, ⟨by decide +kernel, by decide +kernel⟩, by decide +kernel⟩, mm_w1 5 56 rfl rfl, RX7, TX7, 13, rfl, mm_w1 5 57 rfl rfl⟩
theorem lk_X11_364 : mm_LV RX11 364 Y_X7_putRight 7 4 := ⟨⟨mm_w1 5 63 rfl rfl, cw_X7_putRight, by decide +kernel, ⟨by decide +kernel, by decide +kernel⟩, by decide +kernel⟩, mm_w1 5 64 rfl rfl, RX7, TX7, 13, rfl, mm_w1 5 65 rfl rfl⟩
theorem lk_X11_367 : mm_LV RX11 367 Y_X7_fittingShares 7 1 := ⟨⟨mm_w1 5 71 rfl rfl, cw_X7_fittingShares, by decide +kernel, ⟨by decide +kernel, by decide +kernel⟩, by decide +kernel⟩, mm_w1 5 72 rfl rfl, RX7, TX7, 13, rfl, mm_w1 5 73 rfl rfl⟩
theorem lk_X11_370 : mm_LV RX11 370 Y_X7_bestNext 7 2 := ⟨⟨mm_w1 5 90 rfl rfl, cw_X7_bestNext, by decide +kernel, ⟨by decide +kernel, by decide +kernel⟩, by decide +kernel⟩, mm_w1 5 91 rfl rfl, RX7, TX7, 13, rfl, mm_w1 5 92 rfl rfl⟩
theorem lk_X13_5 : mm_LS RX13 5 Y_X13_in 3 := ⟨⟨mm_w1 7 52 rfl rfl, cw_X13_in, by decide +kernel, ⟨by decide +kernel, by decide +kernel⟩, by decide +kernel⟩, mm_w1 7 53 rfl rfl, mm_w1 0 16 rfl rfl⟩
theorem lk_X13_33 : mm_LV RX13 33 Y_X13_byteAt 13 1 := ⟨⟨mm_w1 7 67 rfl rfl, cw_X13_byteAt, by decide +kernel, ⟨by decide +kernel, by decide +kernel⟩, by decide +kernel⟩, mm_w1 7 69 rfl rfl, RX13, TX13, 110, rfl, mm_w0 44 rfl rfl⟩
theorem lk_X13_40 : mm_LS RX13 40 Y_X13_isSmall 1 := ⟨⟨mm_w1 7 71 rfl rfl, cw_X13_isSmall, by decide +kernel, ⟨by decide +kernel, by decide +kernel⟩, by decide +kernel⟩, mm_w1 7 72 rfl rfl, mm_w1 0 16 rfl rfl⟩
theorem lk_X13_44 : mm_LS RX13 44 Y_X13_isDigit 1 := ⟨⟨mm_w1 7 74 rfl rfl, cw_X13_isDigit, by decide +kernel, ⟨by decide +kernel, by decide +kernel⟩, by decide +kernel⟩, mm_w1 7 75 rfl rfl, mm_w1 0 16 rfl rfl⟩
theorem lk_X13_59 : mm_LV RX13 59 Y_X13_wrong 13 1 := ⟨⟨mm_w1 7 107 rfl rfl, cw_X13_wrong, by decide +kernel, ⟨by decide +kernel, by decide +kernel⟩, by decide +kernel⟩, mm_w1 7 109 rfl rfl, RX13, TX13, 110, rfl, mm_w0 49 rfl rfl⟩
theorem lk_X13_63 : mm_LV RX13 63 Y_X13_need 13 2 := ⟨⟨mm_w1 7 103 rfl rfl, cw_X13_need, by decide +kernel, ⟨by decide +kernel, by decide +kernel⟩, by decide +kernel⟩, mm_w1 7 105 rfl rfl, RX13, TX13, 110, rfl, mm_w0 48 rfl rfl⟩
theorem lk_X13_67 : mm_LV RX13 67 Y_X13_look 13 2 := ⟨⟨mm_w1 7 115 rfl rfl, cw_X13_look, by decide +kernel, ⟨by decide +kernel, by decide +kernel⟩, by decide +kernel⟩, mm_w1 7 117 rfl rfl, RX13, TX13, 110, rfl, mm_w0 51 rfl rfl⟩
theorem lk_X13_71 : mm_LV RX13 71 Y_X13_scan 13 0 := ⟨⟨mm_w1 7 63 rfl rfl, cw_X13_scan, by decide +kernel, ⟨by decide +kernel, by decide +kernel⟩, by decide +kernel⟩, mm_w1 7 65 rfl rfl, RX13, TX13, 110, rfl, mm_w0 43 rfl rfl⟩
theorem lk_X13_103 : mm_LV RX13 103 Y_X13_is 13 1 := ⟨⟨mm_w1 7 86 rfl rfl, cw_X13_is, by decide +kernel, ⟨by decide +kernel, by decide +kernel⟩, by decide +kernel⟩, mm_w1 7 88 rfl rfl, RX13, TX13, 110, rfl, mm_w0 47 rfl rfl⟩
theorem lk_X13_129 : mm_LV RX13 129 Y_X13_plain 13 0 := ⟨⟨mm_w1 5 178 rfl rfl, cw_X13_plain, by decide +kernel, ⟨by decide +kernel, by decide +kernel⟩, by decide +kernel⟩, mm_w1 5 180 rfl rfl, RX13, TX13, 110, rfl, mm_w0 39 rfl rfl⟩
theorem lk_X13_132 : mm_LV RX13 132 Y_X13_clauseAtHand 13 0 := ⟨⟨mm_w1 7 81 rfl rfl, cw_X13_clauseAtHand, by decide +kernel, ⟨by decide +kernel, by decide +kernel⟩, by decide +kernel⟩, mm_w1 7 83 rfl rfl, RX13, TX13, 110, rfl, mm_w0 46 rfl rfl⟩
theorem lk_X13_135 : mm_LV RX13 135 Y_X13_readRow 13 3 := ⟨⟨mm_w1 7 111 rfl rfl, cw_X13_readRow, by decide +kernel, ⟨by decide +kernel, by decide +kernel⟩, by decide +kernel⟩, mm_w1 7 113 rfl rfl, RX13, TX13, 110, rfl, mm_w0 50 rfl rfl⟩
theorem lk_X13_145 : mm_LV RX13 145 Y_X13_number 13 2 := ⟨⟨mm_w1 7 123 rfl rfl, cw_X13_number, by decide +kernel, ⟨by decide +kernel, by decide +kernel⟩, by decide +kernel⟩, mm_w1 7 125 rfl rfl, RX13, TX13, 110, rfl, mm_w0 52 rfl rfl⟩
theorem lk_X13_148 : mm_LV RX13 148 Y_X13_close 13 0 := ⟨⟨mm_w1 7 127 rfl rfl, cw_X13_close, by decide +kernel, ⟨by decide +kernel, by decide +kernel⟩, by decide +kernel⟩, mm_w1 7 129 rfl rfl, RX13, TX13, 110, rfl, mm_w0 53 rfl rfl⟩
theorem lm_X13_161 : mm_LM RX13 161 Lib.Math.min.name (.code Lib.Math.min.name Lib.Math.min.code 2 (some .int)) := ⟨mm_w1 5 188 rfl rfl, mm_w1 0 100 rfl rfl, mm_w1 0 6 rfl rfl, mm_w1 0 101 (by decide +kernel) rfl⟩
theorem lk_X13_174 : mm_LV RX13 174 Y_X13_condAtHand 13 0 := ⟨⟨mm_w1 7 144 rfl rfl, cw_X13_condAtHand, by decide +kernel, ⟨by decide +kernel, by decide +kernel⟩, by decide +kernel⟩, mm_w1 7 146 rfl rfl, RX13, TX13, 110, rfl, mm_w0 56 rfl rfl⟩
theorem lk_X13_215 : mm_LV RX13 215 Y_X13_readCond 13 1 := ⟨⟨mm_w1 7 140 rfl rfl, cw_X13_readCond, by decide +kernel, ⟨by decide +kernel, by decide +kernel⟩, by decide +kernel⟩, mm_w1 7 142 rfl rfl, RX13, TX13, 110, rfl, mm_w0 55 rfl rfl⟩
theorem lk_X13_223 : mm_LV RX13 223 Y_X13_moveAtHand 13 0 := ⟨⟨mm_w1 7 158 rfl rfl, cw_X13_moveAtHand, by decide +kernel, ⟨by decide +kernel, by decide +kernel⟩, by decide +kernel⟩, mm_w1 7 160 rfl rfl, RX13, TX13, 110, rfl, mm_w0 57 rfl rfl⟩
theorem lk_X13_226 : mm_LV RX13 226 Y_X13_drumAtHand 13 0 := ⟨⟨mm_w1 7 167 rfl rfl, cw_X13_drumAtHand, by decide +kernel, ⟨by decide +kernel, by decide +kernel⟩, by decide +kernel⟩, mm_w1 7 169 rfl rfl, RX13, TX13, 110, rfl, mm_w0 58 rfl rfl⟩
theorem lk_X13_382 : mm_LV RX13 382 Y_X13_takeKite 13 0 := ⟨⟨mm_w1 5 184 rfl rfl, cw_X13_takeKite, by decide +kernel, ⟨by decide +kernel, by decide +kernel⟩, by decide +kernel⟩, mm_w1 5 186 rfl rfl, RX13, TX13, 110, rfl, mm_w0 40 rfl rfl⟩
theorem lk_X13_385 : mm_LV RX13 385 Y_X13_lay 13 1 := ⟨⟨mm_w1 7 44 rfl rfl, cw_X13_lay, by decide +kernel, ⟨by decide +kernel, by decide +kernel⟩, by decide +kernel⟩, mm_w1 7 46 rfl rfl, RX13, TX13, 110, rfl, mm_w0 41 rfl rfl⟩
theorem lk_X13_388 : mm_LV RX13 388 Y_X13_begin 13 0 := ⟨⟨mm_w1 7 59 rfl rfl, cw_X13_begin, by decide +kernel, ⟨by decide +kernel, by decide +kernel⟩, by decide +kernel⟩, mm_w1 7 61 rfl rfl, RX13, TX13, 110, rfl, mm_w0 42 rfl rfl⟩
theorem lk_X13_391 : mm_LV RX13 391 Y_X13_readKite 13 0 := ⟨⟨mm_w1 7 77 rfl rfl, cw_X13_readKite, by decide +kernel, ⟨by decide +kernel, by decide +kernel⟩, by decide +kernel⟩, mm_w1 7 79 rfl rfl, RX13, TX13, 110, rfl, mm_w0 45 rfl rfl⟩
theorem lk_X13_416 : mm_LV RX13 416 Y_X13_readLine 13 0 := ⟨⟨mm_w1 7 135 rfl rfl, cw_X13_readLine, by decide +kernel, ⟨by decide +kernel, by decide +kernel⟩, by decide +kernel⟩, mm_w1 7 137 rfl rfl, RX13, TX13, 110, rfl, mm_w0 54 rfl rfl⟩
theorem lk_X13_429 : mm_LV RX13 429 Y_X13_ropeOf 13 1 := ⟨⟨mm_w1 7 207 rfl rfl, cw_X13_ropeOf, by decide +kernel, ⟨by decide +kernel, by decide +kernel⟩, by decide +kernel⟩, mm_w1 7 209 rfl rfl, RX13, TX13, 110, rfl, mm_w0 63 rfl rfl⟩
theorem lk_X13_432 : mm_LV RX13 432 Y_X13_rowOf 13 1 := ⟨⟨mm_w1 7 203 rfl rfl, cw_X13_rowOf, by decide +kernel, ⟨by decide +kernel, by decide +kernel⟩, by decide +kernel⟩, mm_w1 7 205 rfl rfl, RX13, TX13, 110, rfl, mm_w0 62 rfl rfl⟩
theorem lk_X13_435 : mm_LV RX13 435 Y_X13_heightOf 13 1 := ⟨⟨mm_w1 7 211 rfl rfl, cw_X13_heightOf, by decide +kernel, ⟨by decide +kernel, by decide +kernel⟩, by decide +kernel⟩, mm_w1 7 213 rfl rfl, RX13, TX13, 110, rfl, mm_w0 64 rfl rfl⟩
theorem lk_X13_438 : mm_LV RX13 438 Y_X13_columnOf 13 1 := ⟨⟨mm_w1 7 199 rfl rfl, cw_X13_columnOf, by decide +kernel, ⟨by decide +kernel, by decide +kernel⟩, by decide +kernel⟩, mm_w1 7 201 rfl rfl, RX13, TX13, 110, rfl, mm_w0 61 rfl rfl⟩
theorem lk_X13_441 : mm_LS RX13 441 Y_X13_moveOf 1 := ⟨⟨mm_w1 7 235 rfl rfl, cw_X13_moveOf, by decide +kernel, ⟨by decide +kernel, by decide +kernel⟩, by decide +kernel⟩, mm_w1 7 236 rfl rfl, mm_w1 0 16 rfl rfl⟩
theorem lk_X13_444 : mm_LV RX13 444 Y_X13_canMove 13 2 := ⟨⟨mm_w1 7 238 rfl rfl, cw_X13_canMove, by decide +kernel, ⟨by decide +kernel, by decide +kernel⟩, by decide +kernel⟩, mm_w1 8 0 rfl rfl, RX13, TX13, 110, rfl, mm_w0 69 rfl rfl⟩
theorem lk_X13_448 : mm_LS RX13 448 Y_X13_drumOf 1 := ⟨⟨mm_w1 8 2 rfl rfl, cw_X13_drumOf, by decide +kernel, ⟨by decide +kernel, by decide +kernel⟩, by decide +kernel⟩, mm_w1 8 3 rfl rfl, mm_w1 0 16 rfl rfl⟩
theorem lk_X13_451 : mm_LV RX13 451 Y_X13_canReel 13 2 := ⟨⟨mm_w1 8 5 rfl rfl, cw_X13_canReel, by decide +kernel, ⟨by decide +kernel, by decide +kernel⟩, by decide +kernel⟩, mm_w1 8 7 rfl rfl, RX13, TX13, 110, rfl, mm_w0 70 rfl rfl⟩
theorem lk_X13_458 : mm_LV RX13 458 Y_X13_states 13 0 := ⟨⟨mm_w1 7 195 rfl rfl, cw_X13_states, by decide +kernel, ⟨by decide +kernel, by decide +kernel⟩, by decide +kernel⟩, mm_w1 7 197 rfl rfl, RX13, TX13, 110, rfl, mm_w0 60 rfl rfl⟩
theorem lk_X13_461 : mm_LV RX13 461 Y_X13_acts 13 0 := ⟨⟨mm_w1 7 227 rfl rfl, cw_X13_acts, by decide +kernel, ⟨by decide +kernel, by decide +kernel⟩, by decide +kernel⟩, mm_w1 7 229 rfl rfl, RX13, TX13, 110, rfl, mm_w0 67 rfl rfl⟩
theorem lk_X13_464 : mm_LV RX13 464 Y_X13_isState 13 1 := ⟨⟨mm_w1 7 191 rfl rfl, cw_X13_isState, by decide +kernel, ⟨by decide +kernel, by decide +kernel⟩, by decide +kernel⟩, mm_w1 7 193 rfl rfl, RX13, TX13, 110, rfl, mm_w0 59 rfl rfl⟩
theorem lk_X13_467 : mm_LV RX13 467 Y_X13_bandOf 13 1 := ⟨⟨mm_w1 7 215 rfl rfl, cw_X13_bandOf, by decide +kernel, ⟨by decide +kernel, by decide +kernel⟩, by decide +kernel⟩, mm_w1 7 217 rfl rfl, RX13, TX13, 110, rfl, mm_w0 65 rfl rfl⟩
theorem lk_X13_470 : mm_LV RX13 470 Y_X13_isAct 13 1 := ⟨⟨mm_w1 7 223 rfl rfl, cw_X13_isAct, by decide +kernel, ⟨by decide +kernel, by decide +kernel⟩, by decide +kernel⟩, mm_w1 7 225 rfl rfl, RX13, TX13, 110, rfl, mm_w0 66 rfl rfl⟩
theorem lk_X13_473 : mm_LV RX13 473 Y_X13_canDo 13 2 := ⟨⟨mm_w1 7 231 rfl rfl, cw_X13_canDo, by decide +kernel, ⟨by decide +kernel, by decide +kernel⟩, by decide +kernel⟩, mm_w1 7 233 rfl rfl, RX13, TX13, 110, rfl, mm_w0 68 rfl rfl⟩
theorem lk_X13_476 : mm_LV RX13 476 Y_X13_after 13 2 := ⟨⟨mm_w1 8 9 rfl rfl, cw_X13_after, by decide +kernel, ⟨by decide +kernel, by decide +kernel⟩, by decide +kernel⟩, mm_w1 8 11 rfl rfl, RX13, TX13, 110, rfl, mm_w0 71 rfl rfl⟩
theorem lk_X13_486 : mm_LS RX13 486 Y_X13_isHour 1 := ⟨⟨mm_w1 8 18 rfl rfl, cw_X13_isHour, by decide +kernel, ⟨by decide +kernel, by decide +kernel⟩, by decide +kernel⟩, mm_w1 8 19 rfl rfl, mm_w1 0 16 rfl rfl⟩
theorem lk_X13_489 : mm_LS RX13 489 Y_X13_isBand 1 := ⟨⟨mm_w1 8 22 rfl rfl, cw_X13_isBand, by decide +kernel, ⟨by decide +kernel, by decide +kernel⟩, by decide +kernel⟩, mm_w1 8 23 rfl rfl, mm_w1 0 16 rfl rfl⟩
theorem lk_X13_497 : mm_LV RX13 497 Y_X13_pullOf 13 3 := ⟨⟨mm_w1 8 35 rfl rfl, cw_X13_pullOf, by decide +kernel, ⟨by decide +kernel, by decide +kernel⟩, by decide +kernel⟩, mm_w1 8 37 rfl rfl, RX13, TX13, 110, rfl, mm_w0 72 rfl rfl⟩
theorem lk_X13_501 : mm_LV RX13 501 Y_X13_highAt 13 2 := ⟨⟨mm_w1 8 48 rfl rfl, cw_X13_highAt, by decide +kernel, ⟨by decide +kernel, by decide +kernel⟩, by decide +kernel⟩, mm_w1 8 50 rfl rfl, RX13, TX13, 110, rfl, mm_w0 74 rfl rfl⟩
theorem lk_X13_504 : mm_LV RX13 504 Y_X13_lowAt 13 2 := ⟨⟨mm_w1 8 52 rfl rfl, cw_X13_lowAt, by decide +kernel, ⟨by decide +kernel, by decide +kernel⟩, by decide +kernel⟩, mm_w1 8 54 rfl rfl, RX13, TX13, 110, rfl, mm_w0 75 rfl rfl⟩
theorem lk_X13_507 : mm_LV RX13 507 Y_X13_workOf 13 2 := ⟨⟨mm_w1 8 64 rfl rfl, cw_X13_workOf, by decide +kernel, ⟨by decide +kernel, by decide +kernel⟩, by decide +kernel⟩, mm_w1 8 66 rfl rfl, RX13, TX13, 110, rfl, mm_w0 77 rfl rfl⟩
theorem lk_X13_510 : mm_LV RX13 510 Y_X13_isSafe 13 3 := ⟨⟨mm_w1 8 44 rfl rfl, cw_X13_isSafe, by decide +kernel, ⟨by decide +kernel, by decide +kernel⟩, by decide +kernel⟩, mm_w1 8 46 rfl rfl, RX13, TX13, 110, rfl, mm_w0 73 rfl rfl⟩
theorem lk_X13_514 : mm_LV RX13 514 Y_X13_surely 13 3 := ⟨⟨mm_w1 8 60 rfl rfl, cw_X13_surely, by decide +kernel, ⟨by decide +kernel, by decide +kernel⟩, by decide +kernel⟩, mm_w1 8 62 rfl rfl, RX13, TX13, 110, rfl, mm_w0 76 rfl rfl⟩
theorem lm_X13_518 : mm_LM RX13 518 Lib.Math.max.name (.code Lib.Math.max.name Lib.Math.max.code 2 (some .int)) := ⟨mm_w1 8 82 rfl rfl, mm_w1 0 97 rfl rfl, mm_w1 0 6 rfl rfl, mm_w1 0 98 (by decide +kernel) rfl⟩
theorem lm_X13_523 : mm_LM RX13 523 Lib.MathLoose.max_long.x (.code Lib.MathLoose.max_long.x Lib.MathLoose.max_long.code 4 (some .long)) := ⟨mm_w1 8 88 rfl rfl, mm_w1 8 89 rfl rfl, mm_w1 0 6 rfl rfl, mm_w1 8 90 (by decide +kernel) rfl⟩
theorem lk_X13_533 : mm_LV RX13 533 Y_X13_lessMean 13 1 := ⟨⟨mm_w1 8 103 rfl rfl, cw_X13_lessMean, by decide +kernel, ⟨by decide +kernel, by decide +kernel⟩, by decide +kernel⟩, mm_w1 8 105 rfl rfl, RX13, TX13, 110, rfl, mm_w0 84 rfl rfl⟩
theorem lk_X13_537 : mm_LV RX13 537 Y_X13_isTight 13 3 := ⟨⟨mm_w1 8 115 rfl rfl, cw_X13_isTight, by decide +kernel, ⟨by decide +kernel, by decide +kernel⟩, by decide +kernel⟩, mm_w1 8 117 rfl rfl, RX13, TX13, 110, rfl, mm_w0 87 rfl rfl⟩
theorem lk_X13_540 : mm_LV RX13 540 Y_X13_isTightStep 13 2 := ⟨⟨mm_w1 8 111 rfl rfl, cw_X13_isTightStep, by decide +kernel, ⟨by decide +kernel, by decide +kernel⟩, by decide +kernel⟩, mm_w1 8 113 rfl rfl, RX13, TX13, 110, rfl, mm_w0 86 rfl rfl⟩
theorem lk_X13_544 : mm_LV RX13 544 Y_X13_leadsTo 13 3 := ⟨⟨mm_w1 8 128 rfl rfl, cw_X13_leadsTo, by decide +kernel, ⟨by decide +kernel, by decide +kernel⟩, by decide +kernel⟩, mm_w1 8 130 rfl rfl, RX13, TX13, 110, rfl, mm_w0 90 rfl rfl⟩
theorem lk_X13_547 : mm_LV RX13 547 Y_X13_findSteps 13 1 := ⟨⟨mm_w1 8 78 rfl rfl, cw_X13_findSteps, by decide +kernel, ⟨by decide +kernel, by decide +kernel⟩, by decide +kernel⟩, mm_w1 8 80 rfl rfl, RX13, TX13, 110, rfl, mm_w0 79 rfl rfl⟩
theorem lk_X13_550 : mm_LV RX13 550 Y_X13_findWalks 13 0 := ⟨⟨mm_w1 8 83 rfl rfl, cw_X13_findWalks, by decide +kernel, ⟨by decide +kernel, by decide +kernel⟩, by decide +kernel⟩, mm_w1 8 85 rfl rfl, RX13, TX13, 110, rfl, mm_w0 80 rfl rfl⟩
theorem lk_X13_553 : mm_LV RX13 553 Y_X13_findMean 13 0 := ⟨⟨mm_w1 8 91 rfl rfl, cw_X13_findMean, by decide +kernel, ⟨by decide +kernel, by decide +kernel⟩, by decide +kernel⟩, mm_w1 8 93 rfl rfl, RX13, TX13, 110, rfl, mm_w0 81 rfl rfl⟩
theorem lk_X13_557 : mm_LV RX13 557 Y_X13_findHigh 13 0 := ⟨⟨mm_w1 8 99 rfl rfl, cw_X13_findHigh, by decide +kernel, ⟨by decide +kernel, by decide +kernel⟩, by decide +kernel⟩, mm_w1 8 101 rfl rfl, RX13, TX13, 110, rfl, mm_w0 83 rfl rfl⟩
theorem lk_X13_560 : mm_LV RX13 560 Y_X13_findTight 13 0 := ⟨⟨mm_w1 8 107 rfl rfl, cw_X13_findTight, by decide +kernel, ⟨by decide +kernel, by decide +kernel⟩, by decide +kernel⟩, mm_w1 8 109 rfl rfl, RX13, TX13, 110, rfl, mm_w0 85 rfl rfl⟩
theorem lk_X13_563 : mm_LV RX13 563 Y_X13_roundOf 13 2 := ⟨⟨mm_w1 8 120 rfl rfl, cw_X13_roundOf, by decide +kernel, ⟨by decide +kernel, by decide +kernel⟩, by decide +kernel⟩, mm_w1 8 122 rfl rfl, RX13, TX13, 110, rfl, mm_w0 88 rfl rfl⟩
theorem lk_X13_566 : mm_LV RX13 566 Y_X13_findFar 13 2 := ⟨⟨mm_w1 8 124 rfl rfl, cw_X13_findFar, by decide +kernel, ⟨by decide +kernel, by decide +kernel⟩, by decide +kernel⟩, mm_w1 8 126 rfl rfl, RX13, TX13, 110, rfl, mm_w0 89 rfl rfl⟩
theorem lk_X13_579 : mm_LV RX13 579 Y_X13_isNext 13 5 := ⟨⟨mm_w1 8 132 rfl rfl, cw_X13_isNext, by decide +kernel, ⟨by decide +kernel, by decide +kernel⟩, by decide +kernel⟩, mm_w1 8 134 rfl rfl, RX13, TX13, 110, rfl, mm_w0 91 rfl rfl⟩
theorem lk_X13_583 : mm_LV RX13 583 Y_X13_findLoop 13 1 := ⟨⟨mm_w1 8 74 rfl rfl, cw_X13_findLoop, by decide +kernel, ⟨by decide +kernel, by decide +kernel⟩, by decide +kernel⟩, mm_w1 8 76 rfl rfl, RX13, TX13, 110, rfl, mm_w0 78 rfl rfl⟩
theorem lk_X13_586 : mm_LV RX13 586 Y_X13_findActs 13 1 := ⟨⟨mm_w1 8 95 rfl rfl, cw_X13_findActs, by decide +kernel, ⟨by decide +kernel, by decide +kernel⟩, by decide +kernel⟩, mm_w1 8 97 rfl rfl, RX13, TX13, 110, rfl, mm_w0 82 rfl rfl⟩
theorem lk_X13_629 : mm_LS RX13 629 Y_X13_isSlot 1 := ⟨⟨mm_w1 8 153 rfl rfl, cw_X13_isSlot, by decide +kernel, ⟨by decide +kernel, by decide +kernel⟩, by decide +kernel⟩, mm_w1 8 154 rfl rfl, mm_w1 0 16 rfl rfl⟩
theorem lk_X13_632 : mm_LV RX13 632 Y_X13_holds 13 3 := ⟨⟨mm_w1 8 170 rfl rfl, cw_X13_holds, by decide +kernel, ⟨by decide +kernel, by decide +kernel⟩, by decide +kernel⟩, mm_w1 8 172 rfl rfl, RX13, TX13, 110, rfl, mm_w0 94 rfl rfl⟩
theorem lk_X13_641 : mm_LV RX13 641 Y_X13_actBy 13 2 := ⟨⟨mm_w1 8 166 rfl rfl, cw_X13_actBy, by decide +kernel, ⟨by decide +kernel, by decide +kernel⟩, by decide +kernel⟩, mm_w1 8 168 rfl rfl, RX13, TX13, 110, rfl, mm_w0 93 rfl rfl⟩
theorem lk_X13_649 : mm_LV RX13 649 Y_X13_flyOn 13 5 := ⟨⟨mm_w1 8 162 rfl rfl, cw_X13_flyOn, by decide +kernel, ⟨by decide +kernel, by decide +kernel⟩, by decide +kernel⟩, mm_w1 8 164 rfl rfl, RX13, TX13, 110, rfl, mm_w0 92 rfl rfl⟩
theorem lk_X13_673 : mm_LV RX13 673 Y_X13_isKept 13 1 := ⟨⟨mm_w1 8 191 rfl rfl, cw_X13_isKept, by decide +kernel, ⟨by decide +kernel, by decide +kernel⟩, by decide +kernel⟩, mm_w1 8 193 rfl rfl, RX13, TX13, 110, rfl, mm_w0 95 rfl rfl⟩
theorem lk_X13_677 : mm_LS RX13 677 Y_X13_isCost 1 := ⟨⟨mm_w1 8 200 rfl rfl, cw_X13_isCost, by decide +kernel, ⟨by decide +kernel, by decide +kernel⟩, by decide +kernel⟩, mm_w1 8 201 rfl rfl, mm_w1 0 16 rfl rfl⟩
theorem lk_X13_684 : mm_LV RX13 684 Y_X13_findStates 13 2 := ⟨⟨mm_w1 8 221 rfl rfl, cw_X13_findStates, by decide +kernel, ⟨by decide +kernel, by decide +kernel⟩, by decide +kernel⟩, mm_w1 8 223 rfl rfl, RX13, TX13, 110, rfl, mm_w0 97 rfl rfl⟩
theorem lm_X13_688 : mm_LM RX13 688 Lib.Math.abs.name (.code Lib.Math.abs.name Lib.Math.abs.code 1 (some .int)) := ⟨mm_w1 8 225 rfl rfl, mm_w1 4 219 rfl rfl, mm_w1 0 6 rfl rfl, mm_w1 4 220 (by decide +kernel) rfl⟩
theorem lk_X13_693 : mm_LS RX13 693 Y_X13_isSite 1 := ⟨⟨mm_w1 8 212 rfl rfl, cw_X13_isSite, by decide +kernel, ⟨by decide +kernel, by decide +kernel⟩, by decide +kernel⟩, mm_w1 8 213 rfl rfl, mm_w1 0 16 rfl rfl⟩
theorem lk_X13_698 : mm_LV RX13 698 Y_X13_leastApart 13 5 := ⟨⟨mm_w1 8 217 rfl rfl, cw_X13_leastApart, by decide +kernel, ⟨by decide +kernel, by decide +kernel⟩, by decide +kernel⟩, mm_w1 8 219 rfl rfl, RX13, TX13, 110, rfl, mm_w0 96 rfl rfl⟩
theorem lk_X13_709 : mm_LV RX13 709 Y_X13_pullBy 13 4 := ⟨⟨mm_w1 9 20 rfl rfl, cw_X13_pullBy, by decide +kernel, ⟨by decide +kernel, by decide +kernel⟩, by decide +kernel⟩, mm_w1 9 22 rfl rfl, RX13, TX13, 110, rfl, mm_w0 98 rfl rfl⟩
theorem lk_X13_715 : mm_LS RX13 715 Y_X13_arePulls 2 := ⟨⟨mm_w1 9 28 rfl rfl, cw_X13_arePulls, by decide +kernel, ⟨by decide +kernel, by decide +kernel⟩, by decide +kernel⟩, mm_w1 9 29 rfl rfl, mm_w1 0 16 rfl rfl⟩
theorem lk_X13_718 : mm_LV RX13 718 Y_X13_isSo 13 3 := ⟨⟨mm_w1 9 44 rfl rfl, cw_X13_isSo, by decide +kernel, ⟨by decide +kernel, by decide +kernel⟩, by decide +kernel⟩, mm_w1 9 46 rfl rfl, RX13, TX13, 110, rfl, mm_w0 100 rfl rfl⟩
theorem lk_X13_721 : mm_LV RX13 721 Y_X13_fitOf 13 1 := ⟨⟨mm_w1 9 40 rfl rfl, cw_X13_fitOf, by decide +kernel, ⟨by decide +kernel, by decide +kernel⟩, by decide +kernel⟩, mm_w1 9 42 rfl rfl, RX13, TX13, 110, rfl, mm_w0 99 rfl rfl⟩
theorem lk_J0_495 : mm_LS RJ0 495 Y_J1_charAt_3b067 2 := ⟨⟨mm_w1 2 152 rfl rfl, cw_J1_charAt_3b067, by decide +kernel, ⟨by decide +kernel, by decide +kernel⟩, by decide +kernel⟩, mm_w1 2 153 rfl rfl, mm_w1 0 21 rfl rfl⟩
theorem lk_J0_498 : mm_LS RJ0 498 Y_J2_charAt_3b067 2 := ⟨⟨mm_w1 2 163 rfl rfl, cw_J2_charAt_3b067, by decide +kernel, ⟨by decide +kernel, by decide +kernel⟩, by decide +kernel⟩, mm_w1 2 164 rfl rfl, mm_w1 0 23 rfl rfl⟩
theorem lk_J0_1059 : mm_LS RJ0 1059 Y_J3_checkIndex_8e157 3 := ⟨⟨mm_w1 2 160 rfl rfl, cw_J3_checkIndex_8e157, by decide +kernel, ⟨by decide +kernel, by decide +kernel⟩, by decide +kernel⟩, mm_w1 2 161 rfl rfl, mm_w1 0 22 rfl rfl⟩
theorem lk_J1_9 : mm_LS RJ1 9 Y_J0_checkIndex_df160 2 := ⟨⟨mm_w1 2 155 rfl rfl, cw_J0_checkIndex_df160, by decide +kernel, ⟨by decide +kernel, by decide +kernel⟩, by decide +kernel⟩, mm_w1 2 156 rfl rfl, mm_w1 0 20 rfl rfl⟩
theorem lk_J2_48 : mm_LS RJ2 48 Y_J2_length_9d52b 1 := ⟨⟨mm_w1 2 169 rfl rfl, cw_J2_length_9d52b, by decide +kernel, ⟨by decide +kernel, by decide +kernel⟩, by decide +kernel⟩, mm_w1 2 170 rfl rfl, mm_w1 0 23 rfl rfl⟩
theorem lk_J2_67 : mm_LS RJ2 67 Y_J2_checkIndex_2214a 2 := ⟨⟨mm_w1 2 166 rfl rfl, cw_J2_checkIndex_2214a, by decide +kernel, ⟨by decide +kernel, by decide +kernel⟩, by decide +kernel⟩, mm_w1 2 167 rfl rfl, mm_w1 0 23 rfl rfl⟩
theorem lk_J2_71 : mm_LS RJ2 71 Y_J2_getChar_3b067 2 := ⟨⟨mm_w1 2 173 rfl rfl, cw_J2_getChar_3b067, by decide +kernel, ⟨by decide +kernel, by decide +kernel⟩, by decide +kernel⟩, mm_w1 2 174 rfl rfl, mm_w1 0 23 rfl rfl⟩
theorem lk_J2_414 : mm_LS RJ2 414 Y_J0_checkIndex_df160 2 := ⟨⟨mm_w1 2 172 rfl rfl, cw_J0_checkIndex_df160, by decide +kernel, ⟨by decide +kernel, by decide +kernel⟩, by decide +kernel⟩, mm_w1 2 156 rfl rfl, mm_w1 0 20 rfl rfl⟩
theorem lk_J7_13 : mm_LS RJ7 13 Y_J7_rangeCheck_23922 3 := ⟨⟨mm_w1 0 89 rfl rfl, cw_J7_rangeCheck_23922, by decide +kernel, ⟨by decide +kernel, by decide +kernel⟩, by decide +kernel⟩, mm_w1 0 90 rfl rfl, mm_w1 0 5 rfl rfl⟩
end
/-! 22.more -/
section
/-! ===== switches, throws, calls within the nest, booleans ===== -/
def mm_b (P : Prop) [Decidable P] : Int := if P then 1 else 0
theorem mm_b_t {P : Prop} [Decidable P] (h : P) : mm_b P = 1 := if_pos h
theorem mm_b_f {P : Prop} [Decidable P] (h : ¬ P) : mm_b P = 0 := if_neg h
theorem mm_b_01 (P : Prop) [Decidable P] : mm_b P = 0 ∨ mm_b P = 1 := by
  unfold mm_b
  split
  · exact Or.inr rfl
  · exact Or.inl rfl
theorem mm_b_R (P : Prop) [Decidable P] : mm_R (mm_b P) := by
  rcases mm_b_01 P with h | h <;> rw [h] <;> omega
theorem mm_b_congr {P Q : Prop} [Decidable P] [Decidable Q] (h : P ↔ Q) : mm_b P = mm_b Q := by
  unfold mm_b
  by_cases hp : P
  · rw [if_pos hp, if_pos (h.mp hp)]
  · rw [if_neg hp, if_neg (fun q => hp (h.mpr q))]
section
variable {X : mm_X} {Y : mm_Y} {n0 n1 n pc q t : Nat} {ls st : List mm_V} {M : mm_M} {Φ : mm_V → mm_M → Prop} {x y : Int}
theorem mm_ifeqb {P : Prop} [Decidable P] (hd : mm_Bz Y.2.1 pc q t .eq) (kt : ¬ P → mm_J X Y n0 n1 n t ls st M Φ) (kf : P → mm_J X Y n0 n1 n q ls st M Φ) : mm_J X Y n0 n1 n pc ls ((0, mm_b P) :: st) M Φ := by
  refine mm_ifeq hd (mm_b_R P) (fun h => kt (fun hp => ?_)) (fun h => kf ?_)
  · rw [mm_b_t hp] at h; exact absurd h (by decide)
  · by_cases hp : P
    · exact hp
    · exact absurd (mm_b_f hp) h
theorem mm_ifneb {P : Prop} [Decidable P] (hd : mm_Bz Y.2.1 pc q t .ne) (kt : P → mm_J X Y n0 n1 n t ls st M Φ) (kf : ¬ P → mm_J X Y n0 n1 n q ls st M Φ) : mm_J X Y n0 n1 n pc ls ((0, mm_b P) :: st) M Φ := by
  refine mm_ifne hd (mm_b_R P) (fun h => kt ?_) (fun h => kf (fun hp => ?_))
  · by_cases hp : P
    · exact hp
    · exact absurd (mm_b_f hp) h
  · rw [mm_b_t hp] at h; exact absurd h (by decide)
theorem mm_tsw {dflt lo hi : Int} {offs : Array Int} {len : Nat} {k : Nat} {off : Int} (hd : decode Y.2.1 pc = .ok (.tableswitch dflt lo hi offs, len)) (hx0 : mm_R x) (h1 : ¬ x < lo) (h2 : ¬ hi < x) (hk : (x - lo).toNat = k) (ho : offs[k]? = some off) (ht : (pc : Int) + off = (t : Int)) (kk : mm_J X Y n0 n1 n t ls st M Φ) : mm_J X Y n0 n1 n pc ls ((0, x) :: st) M Φ := by
  intro p l e R s m args below meth cd D cA bs ro H locs lsr Cx hP hS hL
  exact lv_tableIn Cx.1 Cx.2.1 hd (by show ¬ (mm_i x).toInt < lo; rw [mm_i_to hx0]; exact h1) (by show ¬ hi < (mm_i x).toInt; rw [mm_i_to hx0]; exact h2) (by show offs[((mm_i x).toInt - lo).toNat]? = _; rw [mm_i_to hx0, hk]; exact ho) ht (kk p l e R s m args below meth cd D cA bs ro H locs lsr Cx hP hS hL)
theorem mm_tsd {dflt lo hi : Int} {offs : Array Int} {len : Nat} (hd : decode Y.2.1 pc = .ok (.tableswitch dflt lo hi offs, len)) (hx0 : mm_R x) (h : x < lo ∨ hi < x) (ht : (pc : Int) + dflt = (t : Int)) (kk : mm_J X Y n0 n1 n t ls st M Φ) : mm_J X Y n0 n1 n pc ls ((0, x) :: st) M Φ := by
  intro p l e R s m args below meth cd D cA bs ro H locs lsr Cx hP hS hL
  exact lv_tableOut Cx.1 Cx.2.1 hd (by show (mm_i x).toInt < lo ∨ hi < (mm_i x).toInt; rw [mm_i_to hx0]; exact h) ht (kk p l e R s m args below meth cd D cA bs ro H locs lsr Cx hP hS hL)
/-- a throw that leaves the method -/
theorem mm_athrow (hd : mm_D Y.2.1 pc q .athrow) (hq : pc + 1 = q) (hh : Y.2.2.2.2.2.2 = []) (hr : 0 < x) (hΦ : Φ (4, x) M) : mm_J X Y n0 n n pc ls ((2, x) :: st) M Φ := by
  subst hq
  intro p l e R s m args below meth cd D cA bs ro H locs lsr Cx hP hS hL
  obtain ⟨hx, hb, hrt, -, hown, hT, hlk, -, hHd, -, -, -, -, hK, hRo, -⟩ := id Cx
  intro T hTH X0
  have hno : ∀ y ∈ cd.exceptionTable.toList, covers y pc = false := by
    have : cd.exceptionTable.toList = [] := by
      unfold mm_Hd at hHd
      rw [hh] at hHd
      exact List.map_eq_nil_iff.mp hHd
    rw [this]
    intro y hy
    cases hy
  have hst : (F0 m pc lsr (((2, x) :: st).map (mm_v bs ro))).stack = .ref (mm_ad bs ro x) :: st.map (mm_v bs ro) := by
    show mm_v bs ro (2, x) :: _ = _
    show mm_rf bs ro x :: _ = _
    rw [mm_rf, if_neg (by omega)]
  obtain ⟨u1, u2, u3, u4, u5⟩ := X0.athrowLeaves hx (g := F0 m pc lsr (((2, x) :: st).map (mm_v bs ro))) rfl rfl rfl hno hst (by rw [hb]; simpa using hd.1) hlk
  refine ⟨_, u1, .threw (mm_ad bs ro x), (4, x), M, locs, u2, u3, rfl, hΦ, ?_, ?_, u4, u5, hS.2.2⟩
  · show mm_Wd D cA bs ro n M T.heap
    rw [hTH]; exact hP
  · exact hS.F (t := T.setFrames _) hTH
end
/-- a static method of another class of the nest -/
def mm_LN (own : String) (idx : Nat) (Y' : mm_Y) (na : Nat) : Prop := (∃ host, (own, idx, Y'.1, host) ∈ mm_nw) ∧ mm_Wk (mm_cw Y') ∧ plainName Y'.1.cls = true ∧ (Y'.1.cls ≠ "java/lang/invoke/MethodHandle" ∧ Y'.1.cls ≠ "java/lang/invoke/VarHandle") ∧ (parseMethodDescriptor Y'.1.desc).map (fun g => g.parameters.length) = some na ∧ mm_Wk (.static Y'.1) ∧ mm_Wk (.initialized Y'.1.cls)
section
variable {X : mm_X} {Y Y' : mm_Y} {n pc q idx na : Nat} {ls st stk as : List mm_V} {M M1 : mm_M} {Φ Ψ : mm_V → mm_M → Prop} {r x : Int} {v1 v2 v3 : mm_V}
theorem mm_callN {n0 n1 n' : Nat} (hd : mm_D Y.2.1 pc q (.invokestatic idx)) (hq : pc + 3 = q) (hw : mm_LN Y.1.cls idx Y' na) (hna : as.length = na) (hst : stk = as.reverse ++ st)
    (hn : mm_le n0 n n' n1) (h9 : ∀ v ∈ as, v.1 ≠ 9) (hpad : (mm_dbl as).length ≤ Y'.2.2.1) (hfr : Y'.2.2.2.2.1 + 1 ≤ Y.2.2.2.2.1) (hlo : mm_wd st + (Y'.2.2.1 + 11) + Y'.2.2.2.2.2.1 ≤ Y.2.2.2.2.2.1)
    (hC : mm_C X Y' n n' as M Ψ) (hk : ∀ r M', Ψ r M' → mm_Kc X Y n0 n1 n' q ls st Φ r M') : mm_J X Y n0 n1 n pc ls stk M Φ := by
  subst hst
  intro p l e R s m args below meth cd D cA bs ro H locs lsr Cx hP hS hL
  obtain ⟨hx, hb, -, hml, hown, hT, -, -, -, -, -, -, -, hK, hRo, -⟩ := id Cx
  obtain ⟨⟨host, w1⟩, w2, w3, w4, w5, w6, w7⟩ := hw
  have hd3 : decode Y.2.1 pc = .ok (.invokestatic idx, 3) := by
    have := hd.1
    rw [← hq] at this
    simpa using this
  refine mm_callx (ig := .invokestatic idx) Cx hP hS hL hn w3 h9 hpad (hT.at w2) w2.2 hfr hlo hd3 hq ?_ hC hk
  intro T hTH X0
  obtain ⟨mk, methM, cM, hnamed, hmethM, -, -, -, -, -, -, hsigM⟩ := mm_cw_spec (hT.at w2)
  have hstatic : methM.isStatic = true := Cond.static_spec hnamed hmethM (hT.at w6)
  obtain ⟨kP, hkP, -⟩ := className_of_methodNamed hnamed
  have hinitP : kP.init = .initialized := Cond.initialized_spec (findClass_of_methodNamed hnamed) hkP (hT.at w7)
  obtain ⟨vm₁, X₁, hstep₁⟩ := X0.invokestaticNest hx hown (va_Nw.use rfl (hRo.2.2.2.2.1 _ w1)) hnamed hmethM hstatic hkP hinitP w4 (g := F0 m pc lsr ((as.reverse ++ st).map (mm_v bs ro))) rfl (argsL := as.map (mm_v bs ro)) (rest := st.map (mm_v bs ro)) (by rw [List.length_map, hna]; exact mm_lenOf w5 hsigM)
    (by rw [List.map_append, List.map_reverse]) (by rw [hb]; exact hd3)
  exact ⟨vm₁, mk, X₁, hnamed, fun target h => hstep₁ target (fun acts => h acts)⟩
theorem mm_N3i (hd : mm_D Y.2.1 pc q (.invokestatic idx)) (hq : pc + 3 = q) (hw : mm_LN Y.1.cls idx Y' 3) (hv1 : v1.1 ≠ 9) (hv2 : v2.1 ≠ 9) (hv3 : v3.1 ≠ 9) (hpad : Nat.ble (mm_dbl [v1, v2, v3]).length Y'.2.2.1 = true) (hfr : Nat.ble (Y'.2.2.2.2.1 + 1) Y.2.2.2.2.1 = true) (hlo : Nat.ble (mm_wd st + (Y'.2.2.1 + 11) + Y'.2.2.2.2.2.1) Y.2.2.2.2.2.1 = true) (hC : mm_Fn X Y' n [v1, v2, v3] M (0, x) M1) (k : mm_J X Y n n n q ls ((0, x) :: st) M1 Φ) : mm_J X Y n n n pc ls (v3 :: v2 :: v1 :: st) M Φ := by
  refine mm_callN hd hq hw (as := [v1, v2, v3]) rfl rfl (mm_le_rf n) (by simp; exact ⟨hv1, hv2, hv3⟩) (Nat.le_of_ble_eq_true hpad) (Nat.le_of_ble_eq_true hfr) (Nat.le_of_ble_eq_true hlo) hC ?_
  rintro _ _ ⟨rfl, rfl⟩
  exact k
end
/-- the references as both objects hold them once they are made -/
def mm_rt (c i : Nat) : Int := ((mm_rl.find? (fun q => q.1 == c && q.2.1 == i)).map (fun q => (q.2.2 : Int))).getD 0
def mm_Rf (M : mm_M) : Prop := ∀ c i, mm_rt c i ≠ 0 → M c i = mm_rt c i
theorem mm_Rf.at {M : mm_M} (h : mm_Rf M) {c i : Nat} {v : Int} (hv : mm_rt c i = v) (h0 : v ≠ 0) : M c i = v := by
  subst hv
  exact h c i h0
theorem mm_Rf.up {M : mm_M} (h : mm_Rf M) {c i : Nat} {v : Int} (h0 : mm_rt c i = 0) : mm_Rf (mm_up M c i v) := by
  intro a b hab
  rw [mm_up_n (fun q => hab (by rw [q.1, q.2]; exact h0))]
  exact h a b hab
/-- no reference stands in an array of numbers -/
theorem mm_rt_0 {c i : Nat} (h : mm_rl.all (fun q => q.1 != c) = true) : mm_rt c i = 0 := by
  unfold mm_rt
  have : mm_rl.find? (fun q => q.1 == c && q.2.1 == i) = none := by
    rw [List.find?_eq_none]
    intro q hq
    have := List.all_eq_true.mp h q hq
    simp only [bne_iff_ne] at this
    simp [this]
  rw [this]
  rfl
section
variable {X : mm_X} {Y : mm_Y} {n0 n1 n pc q t c ci i idx len kd : Nat} {ls st : List mm_V} {M : mm_M} {Φ : mm_V → mm_M → Prop} {x y r j v : Int}
/-- a field that holds a reference -/
theorem mm_getr {fin : Bool} {ty : FieldType} (hd : mm_D Y.2.1 pc q (.getfield idx)) (hq : pc + 3 = q) (hf : mm_F Y.1.cls idx ci i fin ty) (hr : r = (c : Int) + 1) (hc : c < n) (hs : mm_sh c = (0, ci)) (hk : mm_fk ci i = 2) (hM : M c i = v)
    (k : mm_J X Y n0 n1 n q ls ((2, v) :: st) M Φ) : mm_J X Y n0 n1 n pc ls ((2, r) :: st) M Φ := by
  subst hM
  exact mm_get hd hq hf hr hc hs hk k
end
theorem ln_X4_113 : mm_LN RX4 113 Y_X11_isWithin 3 := ⟨⟨"KitePower", by decide +kernel⟩, cw_X11_isWithin, by decide +kernel, ⟨by decide +kernel, by decide +kernel⟩, by decide +kernel, mm_w1 2 204 rfl rfl, mm_w1 0 1 rfl rfl⟩
theorem ln_X7_68 : mm_LN RX7 68 Y_X11_isWithin 3 := ⟨⟨"KitePower", by decide +kernel⟩, cw_X11_isWithin, by decide +kernel, ⟨by decide +kernel, by decide +kernel⟩, by decide +kernel, mm_w1 2 204 rfl rfl, mm_w1 0 1 rfl rfl⟩
theorem ln_X10_65 : mm_LN RX10 65 Y_X11_isWithin 3 := ⟨⟨"KitePower", by decide +kernel⟩, cw_X11_isWithin, by decide +kernel, ⟨by decide +kernel, by decide +kernel⟩, by decide +kernel, mm_w1 2 204 rfl rfl, mm_w1 0 1 rfl rfl⟩
end
