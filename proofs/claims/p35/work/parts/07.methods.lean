/-! ===== the methods: records, words ===== -/
def mX0_init : cz_M := (0, cX0_init, 2, { frames := 2, cells := 41, slots := 202, locals := 32 }, yX0_init, none, [])
def mX0_clear : cz_M := (0, cX0_clear, 1, { frames := 0, cells := 0, slots := 0, locals := 0 }, yX0_clear, none, [])
def mX0_cheesesIn : cz_M := (0, cX0_cheesesIn, 4, { frames := 1, cells := 0, slots := 0, locals := 21 }, yX0_cheesesIn, some .int, [])
def mX0_costOf : cz_M := (0, cX0_costOf, 4, { frames := 1, cells := 0, slots := 0, locals := 21 }, yX0_costOf, some .int, [])
def mX1_init : cz_M := (1, cX1_init, 1, { frames := 1, cells := 0, slots := 0, locals := 12 }, yX1_init, none, [])
def mX2_init : cz_M := (2, cX2_init, 1, { frames := 1, cells := 0, slots := 0, locals := 12 }, yX2_init, none, [])
def mX3_init : cz_M := (3, cX3_init, 1, { frames := 1, cells := 2, slots := 12, locals := 12 }, yX3_init, none, [])
def mX3_clear : cz_M := (3, cX3_clear, 1, { frames := 0, cells := 0, slots := 0, locals := 0 }, yX3_clear, none, [])
def mX3_become : cz_M := (3, cX3_become, 3, { frames := 0, cells := 0, slots := 0, locals := 0 }, yX3_become, none, [])
def mX3_add : cz_M := (3, cX3_add, 3, { frames := 0, cells := 0, slots := 0, locals := 0 }, yX3_add, none, [])
def mX3_addDrawn : cz_M := (3, cX3_addDrawn, 4, { frames := 1, cells := 0, slots := 0, locals := 22 }, yX3_addDrawn, some .int, [])
def mX3_drawBelow : cz_M := (3, cX3_drawBelow, 2, { frames := 0, cells := 0, slots := 0, locals := 0 }, yX3_drawBelow, some .int, [])
def mX4_init : cz_M := (4, cX4_init, 1, { frames := 1, cells := 1, slots := 8, locals := 12 }, yX4_init, none, [])
def mX4_holds : cz_M := (4, cX4_holds, 3, { frames := 0, cells := 0, slots := 0, locals := 0 }, yX4_holds, some .boolean, [])
def mX5_init : cz_M := (5, cX5_init, 3, { frames := 1, cells := 9, slots := 292, locals := 12 }, yX5_init, none, [])
def mX5_play : cz_M := (5, cX5_play, 9, { frames := 4, cells := 0, slots := 0, locals := 93 }, yX5_play, none, [])
def mX5_forget : cz_M := (5, cX5_forget, 1, { frames := 1, cells := 0, slots := 0, locals := 23 }, yX5_forget, none, [])
def mX5_turnAll : cz_M := (5, cX5_turnAll, 6, { frames := 3, cells := 0, slots := 0, locals := 68 }, yX5_turnAll, some .int, [])
def mX5_turnSome : cz_M := (5, cX5_turnSome, 9, { frames := 1, cells := 0, slots := 0, locals := 21 }, yX5_turnSome, some .int, [])
def mX5_judge : cz_M := (5, cX5_judge, 9, { frames := 1, cells := 0, slots := 0, locals := 21 }, yX5_judge, none, [])
def mX5_isAwake : cz_M := (5, cX5_isAwake, 4, { frames := 2, cells := 0, slots := 0, locals := 45 }, yX5_isAwake, some .boolean, [])
def mX5_isCalled : cz_M := (5, cX5_isCalled, 5, { frames := 1, cells := 0, slots := 0, locals := 21 }, yX5_isCalled, some .boolean, [])
def mX5_noticedHuts : cz_M := (5, cX5_noticedHuts, 3, { frames := 1, cells := 0, slots := 0, locals := 22 }, yX5_noticedHuts, some .int, [])
def mX5_minutesAwake : cz_M := (5, cX5_minutesAwake, 4, { frames := 3, cells := 0, slots := 0, locals := 68 }, yX5_minutesAwake, some .int, [])
def mX5_turnerOf : cz_M := (5, cX5_turnerOf, 4, { frames := 0, cells := 0, slots := 0, locals := 0 }, yX5_turnerOf, some .int, [])
def mX5_isTurned : cz_M := (5, cX5_isTurned, 3, { frames := 1, cells := 0, slots := 0, locals := 23 }, yX5_isTurned, some .boolean, [])
def mX5_liesUp : cz_M := (5, cX5_liesUp, 5, { frames := 2, cells := 0, slots := 0, locals := 45 }, yX5_liesUp, some .boolean, [])
def mX5_minuteOfVein : cz_M := (5, cX5_minuteOfVein, 5, { frames := 2, cells := 0, slots := 0, locals := 45 }, yX5_minuteOfVein, some .int, [])
def mX5_cheesesWithVeins : cz_M := (5, cX5_cheesesWithVeins, 4, { frames := 3, cells := 0, slots := 0, locals := 68 }, yX5_cheesesWithVeins, some .int, [])
def mX5_hasJustVeins : cz_M := (5, cX5_hasJustVeins, 4, { frames := 2, cells := 0, slots := 0, locals := 45 }, yX5_hasJustVeins, some .boolean, [])
def mX5_missesAny : cz_M := (5, cX5_missesAny, 2, { frames := 0, cells := 0, slots := 0, locals := 0 }, yX5_missesAny, some .boolean, [])
def mX5_price : cz_M := (5, cX5_price, 4, { frames := 1, cells := 0, slots := 0, locals := 21 }, yX5_price, some .int, [])
def mX5_sum : cz_M := (5, cX5_sum, 3, { frames := 2, cells := 0, slots := 0, locals := 44 }, yX5_sum, some .int, [])
def mX6_init : cz_M := (6, cX6_init, 2, { frames := 2, cells := 47, slots := 270, locals := 32 }, yX6_init, none, [])
def mX6_clear : cz_M := (6, cX6_clear, 1, { frames := 0, cells := 0, slots := 0, locals := 0 }, yX6_clear, none, [])
def mX6_keepAct : cz_M := (6, cX6_keepAct, 2, { frames := 1, cells := 0, slots := 0, locals := 22 }, yX6_keepAct, none, [])
def mX6_dropOldestAct : cz_M := (6, cX6_dropOldestAct, 3, { frames := 0, cells := 0, slots := 0, locals := 0 }, yX6_dropOldestAct, none, [])
def mX6_takeBack : cz_M := (6, cX6_takeBack, 2, { frames := 1, cells := 0, slots := 0, locals := 22 }, yX6_takeBack, some .boolean, [])
def mX6_keepMark : cz_M := (6, cX6_keepMark, 2, { frames := 1, cells := 0, slots := 0, locals := 22 }, yX6_keepMark, some .int, [])
def mX6_goBack : cz_M := (6, cX6_goBack, 3, { frames := 1, cells := 0, slots := 0, locals := 22 }, yX6_goBack, some .boolean, [])
def mX7_init : cz_M := (7, cX7_init, 3, { frames := 1, cells := 2, slots := 13, locals := 12 }, yX7_init, none, [])
def mX7_readAll : cz_M := (7, cX7_readAll, 4, { frames := 11, cells := 0, slots := 0, locals := 234 }, yX7_readAll, some .boolean, [])
def mX7_fail : cz_M := (7, cX7_fail, 2, { frames := 0, cells := 0, slots := 0, locals := 0 }, yX7_fail, some .boolean, [])
def mX7_step : cz_M := (7, cX7_step, 2, { frames := 1, cells := 0, slots := 0, locals := 20 }, yX7_step, none, [])
def mX7_stepWord : cz_M := (7, cX7_stepWord, 1, { frames := 0, cells := 0, slots := 0, locals := 0 }, yX7_stepWord, some .int, [])
def mX7_stepWhole : cz_M := (7, cX7_stepWhole, 1, { frames := 0, cells := 0, slots := 0, locals := 0 }, yX7_stepWhole, some .int, [])
def mX7_packed : cz_M := (7, cX7_packed, 4, { frames := 5, cells := 0, slots := 0, locals := 106 }, yX7_packed, some .long, [1])
def mX7_seesWord : cz_M := (7, cX7_seesWord, 2, { frames := 6, cells := 0, slots := 0, locals := 129 }, yX7_seesWord, some .boolean, [])
def mX7_takeWord : cz_M := (7, cX7_takeWord, 2, { frames := 7, cells := 0, slots := 0, locals := 150 }, yX7_takeWord, some .boolean, [])
def mX7_seesWhole : cz_M := (7, cX7_seesWhole, 3, { frames := 1, cells := 0, slots := 0, locals := 21 }, yX7_seesWhole, some .boolean, [])
def mX7_takeWhole : cz_M := (7, cX7_takeWhole, 3, { frames := 2, cells := 0, slots := 0, locals := 43 }, yX7_takeWhole, some .boolean, [])
def mX7_takeComma : cz_M := (7, cX7_takeComma, 1, { frames := 2, cells := 0, slots := 0, locals := 41 }, yX7_takeComma, some .boolean, [])
def mX7_takeHut : cz_M := (7, cX7_takeHut, 1, { frames := 3, cells := 0, slots := 0, locals := 65 }, yX7_takeHut, some .boolean, [])
def mX7_takeSpan : cz_M := (7, cX7_takeSpan, 1, { frames := 8, cells := 0, slots := 0, locals := 171 }, yX7_takeSpan, some .boolean, [])
def mX7_lineWord : cz_M := (7, cX7_lineWord, 1, { frames := 0, cells := 0, slots := 0, locals := 0 }, yX7_lineWord, some (.object "java/lang/String"), [])
def mX7_sortOfWord : cz_M := (7, cX7_sortOfWord, 2, { frames := 6, cells := 0, slots := 0, locals := 129 }, yX7_sortOfWord, some .int, [])
def mX7_isToldAgain : cz_M := (7, cX7_isToldAgain, 2, { frames := 0, cells := 0, slots := 0, locals := 0 }, yX7_isToldAgain, some .boolean, [])
def mX7_isFull : cz_M := (7, cX7_isFull, 2, { frames := 0, cells := 0, slots := 0, locals := 0 }, yX7_isFull, some .boolean, [])
def mX7_readLine : cz_M := (7, cX7_readLine, 2, { frames := 10, cells := 0, slots := 0, locals := 213 }, yX7_readLine, some .boolean, [])
def mX7_readAlp : cz_M := (7, cX7_readAlp, 2, { frames := 8, cells := 0, slots := 0, locals := 171 }, yX7_readAlp, some .boolean, [])
def mX7_readEvent : cz_M := (7, cX7_readEvent, 3, { frames := 9, cells := 0, slots := 0, locals := 191 }, yX7_readEvent, some .boolean, [])
def mX7_readCheese : cz_M := (7, cX7_readCheese, 2, { frames := 9, cells := 0, slots := 0, locals := 190 }, yX7_readCheese, some .boolean, [])
def mX7_readTurner : cz_M := (7, cX7_readTurner, 2, { frames := 9, cells := 0, slots := 0, locals := 191 }, yX7_readTurner, some .boolean, [])
def mX7_turnerKind : cz_M := (7, cX7_turnerKind, 1, { frames := 7, cells := 0, slots := 0, locals := 150 }, yX7_turnerKind, some .int, [])
def mX7_readHuts : cz_M := (7, cX7_readHuts, 3, { frames := 2, cells := 0, slots := 0, locals := 43 }, yX7_readHuts, some .boolean, [])
def mX7_readCall : cz_M := (7, cX7_readCall, 3, { frames := 8, cells := 0, slots := 0, locals := 171 }, yX7_readCall, some .boolean, [])
def mX7_readMinutes : cz_M := (7, cX7_readMinutes, 4, { frames := 2, cells := 0, slots := 0, locals := 43 }, yX7_readMinutes, some .boolean, [])
def mX7_seesName : cz_M := (7, cX7_seesName, 1, { frames := 7, cells := 0, slots := 0, locals := 150 }, yX7_seesName, some .boolean, [])
def mX7_seesNewName : cz_M := (7, cX7_seesNewName, 1, { frames := 8, cells := 0, slots := 0, locals := 170 }, yX7_seesNewName, some .boolean, [])
def mX7_isToldCheese : cz_M := (7, cX7_isToldCheese, 2, { frames := 0, cells := 0, slots := 0, locals := 0 }, yX7_isToldCheese, some .boolean, [])
def mX7_namedTurner : cz_M := (7, cX7_namedTurner, 2, { frames := 0, cells := 0, slots := 0, locals := 0 }, yX7_namedTurner, some .int, [])
def mX8_init : cz_M := (8, cX8_init, 1, { frames := 1, cells := 9, slots := 2160, locals := 12 }, yX8_init, none, [])
def mX8_build : cz_M := (8, cX8_build, 5, { frames := 2, cells := 0, slots := 0, locals := 44 }, yX8_build, none, [])
def mX8_wipe : cz_M := (8, cX8_wipe, 2, { frames := 0, cells := 0, slots := 0, locals := 0 }, yX8_wipe, none, [])
def mX8_layCloud : cz_M := (8, cX8_layCloud, 4, { frames := 0, cells := 0, slots := 0, locals := 0 }, yX8_layCloud, none, [])
def mX8_layEvent : cz_M := (8, cX8_layEvent, 3, { frames := 0, cells := 0, slots := 0, locals := 0 }, yX8_layEvent, none, [])
def mX8_findLight : cz_M := (8, cX8_findLight, 2, { frames := 1, cells := 0, slots := 0, locals := 21 }, yX8_findLight, none, [])
def mX8_findStirs : cz_M := (8, cX8_findStirs, 3, { frames := 1, cells := 0, slots := 0, locals := 22 }, yX8_findStirs, none, [])
def mX8_isBright : cz_M := (8, cX8_isBright, 2, { frames := 0, cells := 0, slots := 0, locals := 0 }, yX8_isBright, some .boolean, [])
def mX8_crackingHuts : cz_M := (8, cX8_crackingHuts, 2, { frames := 0, cells := 0, slots := 0, locals := 0 }, yX8_crackingHuts, some .int, [])
def mX9_init : cz_M := (9, cX9_init, 1, { frames := 1, cells := 0, slots := 0, locals := 12 }, yX9_init, none, [])
def mX10_init : cz_M := (10, cX10_init, 1, { frames := 3, cells := 182, slots := 6624, locals := 53 }, yX10_init, none, [])
def mX10_feed : cz_M := (10, cX10_feed, 6, { frames := 1, cells := 0, slots := 0, locals := 22 }, yX10_feed, some .int, [])
def mX10_alp : cz_M := (10, cX10_alp, 4, { frames := 12, cells := 0, slots := 0, locals := 257 }, yX10_alp, some .int, [])
def mX10_fault : cz_M := (10, cX10_fault, 1, { frames := 0, cells := 0, slots := 0, locals := 0 }, yX10_fault, some .int, [])
def mX10_where : cz_M := (10, cX10_where, 1, { frames := 0, cells := 0, slots := 0, locals := 0 }, yX10_where, some .int, [])
def mX10_sky : cz_M := (10, cX10_sky, 2, { frames := 4, cells := 0, slots := 0, locals := 88 }, yX10_sky, some .int, [])
def mX10_light : cz_M := (10, cX10_light, 6, { frames := 4, cells := 0, slots := 0, locals := 88 }, yX10_light, some .int, [])
def mX10_changes : cz_M := (10, cX10_changes, 7, { frames := 4, cells := 0, slots := 0, locals := 88 }, yX10_changes, some .int, [])
def mX10_change : cz_M := (10, cX10_change, 6, { frames := 4, cells := 0, slots := 0, locals := 88 }, yX10_change, some .int, [])
def mX10_peak : cz_M := (10, cX10_peak, 6, { frames := 4, cells := 0, slots := 0, locals := 88 }, yX10_peak, some .int, [])
def mX10_due : cz_M := (10, cX10_due, 2, { frames := 4, cells := 0, slots := 0, locals := 88 }, yX10_due, some .int, [])
def mX10_awake : cz_M := (10, cX10_awake, 3, { frames := 6, cells := 0, slots := 0, locals := 141 }, yX10_awake, some .int, [])
def mX10_notices : cz_M := (10, cX10_notices, 4, { frames := 6, cells := 0, slots := 0, locals := 141 }, yX10_notices, some .int, [])
def mX10_work : cz_M := (10, cX10_work, 4, { frames := 6, cells := 0, slots := 0, locals := 141 }, yX10_work, some .int, [])
def mX10_worth : cz_M := (10, cX10_worth, 2, { frames := 6, cells := 0, slots := 0, locals := 141 }, yX10_worth, some .int, [])
def mX10_turned : cz_M := (10, cX10_turned, 3, { frames := 6, cells := 0, slots := 0, locals := 141 }, yX10_turned, some .int, [])
def mX10_up : cz_M := (10, cX10_up, 3, { frames := 6, cells := 0, slots := 0, locals := 141 }, yX10_up, some .int, [])
def mX10_cheese : cz_M := (10, cX10_cheese, 4, { frames := 6, cells := 0, slots := 0, locals := 141 }, yX10_cheese, some .int, [])
def mX10_vein : cz_M := (10, cX10_vein, 4, { frames := 7, cells := 0, slots := 0, locals := 163 }, yX10_vein, some .int, [])
def mX10_cause : cz_M := (10, cX10_cause, 5, { frames := 7, cells := 0, slots := 0, locals := 163 }, yX10_cause, some .int, [])
def mX10_total : cz_M := (10, cX10_total, 1, { frames := 6, cells := 0, slots := 0, locals := 141 }, yX10_total, some .int, [])
def mX10_without : cz_M := (10, cX10_without, 2, { frames := 6, cells := 0, slots := 0, locals := 141 }, yX10_without, some .int, [])
def mX10_wake : cz_M := (10, cX10_wake, 1, { frames := 6, cells := 0, slots := 0, locals := 146 }, yX10_wake, some .int, [])
def mX10_wakeTotal : cz_M := (10, cX10_wakeTotal, 1, { frames := 6, cells := 0, slots := 0, locals := 146 }, yX10_wakeTotal, some .int, [])
def mX10_fewest : cz_M := (10, cX10_fewest, 2, { frames := 7, cells := 0, slots := 0, locals := 163 }, yX10_fewest, some .int, [])
def mX10_fewestBy : cz_M := (10, cX10_fewestBy, 1, { frames := 7, cells := 0, slots := 0, locals := 163 }, yX10_fewestBy, some .int, [])
def mX10_fits : cz_M := (10, cX10_fits, 2, { frames := 6, cells := 0, slots := 0, locals := 141 }, yX10_fits, some .int, [])
def mX10_by : cz_M := (10, cX10_by, 4, { frames := 5, cells := 0, slots := 0, locals := 121 }, yX10_by, some .int, [])
def mX10_nights : cz_M := (10, cX10_nights, 7, { frames := 5, cells := 0, slots := 0, locals := 121 }, yX10_nights, some .int, [])
def mX10_call : cz_M := (10, cX10_call, 3, { frames := 2, cells := 0, slots := 0, locals := 43 }, yX10_call, some .boolean, [])
def mX10_calls : cz_M := (10, cX10_calls, 1, { frames := 1, cells := 0, slots := 0, locals := 21 }, yX10_calls, some .int, [])
def mX10_cloud : cz_M := (10, cX10_cloud, 3, { frames := 2, cells := 0, slots := 0, locals := 43 }, yX10_cloud, some .boolean, [])
def mX10_draw : cz_M := (10, cX10_draw, 2, { frames := 2, cells := 0, slots := 0, locals := 45 }, yX10_draw, some .int, [])
def mX10_lift : cz_M := (10, cX10_lift, 1, { frames := 2, cells := 0, slots := 0, locals := 43 }, yX10_lift, some .boolean, [])
def mX10_seed : cz_M := (10, cX10_seed, 2, { frames := 1, cells := 0, slots := 0, locals := 21 }, yX10_seed, some .boolean, [])
def mX10_undo : cz_M := (10, cX10_undo, 1, { frames := 2, cells := 0, slots := 0, locals := 43 }, yX10_undo, some .boolean, [])
def mX10_mark : cz_M := (10, cX10_mark, 2, { frames := 2, cells := 0, slots := 0, locals := 43 }, yX10_mark, some .int, [])
def mX10_back : cz_M := (10, cX10_back, 2, { frames := 2, cells := 0, slots := 0, locals := 44 }, yX10_back, some .boolean, [])
def mX10_event : cz_M := (10, cX10_event, 4, { frames := 2, cells := 0, slots := 0, locals := 41 }, yX10_event, some .int, [])
def mX10_led : cz_M := (10, cX10_led, 5, { frames := 6, cells := 1, slots := 6, locals := 141 }, yX10_led, some .int, [])
def mX10_size : cz_M := (10, cX10_size, 2, { frames := 0, cells := 0, slots := 0, locals := 0 }, yX10_size, some .int, [])
def mX10_trouble : cz_M := (10, cX10_trouble, 1, { frames := 0, cells := 0, slots := 0, locals := 0 }, yX10_trouble, some .int, [])
def mX10_answered : cz_M := (10, cX10_answered, 2, { frames := 0, cells := 0, slots := 0, locals := 0 }, yX10_answered, some .int, [])
def mX10_allowed : cz_M := (10, cX10_allowed, 1, { frames := 0, cells := 0, slots := 0, locals := 0 }, yX10_allowed, some .boolean, [])
def mX10_refused : cz_M := (10, cX10_refused, 2, { frames := 0, cells := 0, slots := 0, locals := 0 }, yX10_refused, some .int, [])
def mX10_refusedTotal : cz_M := (10, cX10_refusedTotal, 2, { frames := 0, cells := 0, slots := 0, locals := 0 }, yX10_refusedTotal, some .int, [])
def mX10_refusedAct : cz_M := (10, cX10_refusedAct, 2, { frames := 0, cells := 0, slots := 0, locals := 0 }, yX10_refusedAct, some .boolean, [])
def mX10_isMinute : cz_M := (10, cX10_isMinute, 2, { frames := 0, cells := 0, slots := 0, locals := 0 }, yX10_isMinute, some .boolean, [])
def mX10_isHut : cz_M := (10, cX10_isHut, 2, { frames := 0, cells := 0, slots := 0, locals := 0 }, yX10_isHut, some .boolean, [])
def mX10_isTurner : cz_M := (10, cX10_isTurner, 2, { frames := 0, cells := 0, slots := 0, locals := 0 }, yX10_isTurner, some .boolean, [])
def mX10_isCheese : cz_M := (10, cX10_isCheese, 2, { frames := 0, cells := 0, slots := 0, locals := 0 }, yX10_isCheese, some .boolean, [])
def mX10_isSlice : cz_M := (10, cX10_isSlice, 2, { frames := 0, cells := 0, slots := 0, locals := 0 }, yX10_isSlice, some .boolean, [])
def mX10_isEvent : cz_M := (10, cX10_isEvent, 2, { frames := 1, cells := 0, slots := 0, locals := 20 }, yX10_isEvent, some .boolean, [])
def mX10_isSeed : cz_M := (10, cX10_isSeed, 1, { frames := 0, cells := 0, slots := 0, locals := 0 }, yX10_isSeed, some .boolean, [])
def mX10_bit : cz_M := (10, cX10_bit, 2, { frames := 0, cells := 0, slots := 0, locals := 0 }, yX10_bit, some .int, [])
def mX10_putBytes : cz_M := (10, cX10_putBytes, 3, { frames := 0, cells := 0, slots := 0, locals := 0 }, yX10_putBytes, none, [])
def mX10_cloudsMoved : cz_M := (10, cX10_cloudsMoved, 1, { frames := 0, cells := 0, slots := 0, locals := 0 }, yX10_cloudsMoved, none, [])
def mX10_presentSky : cz_M := (10, cX10_presentSky, 1, { frames := 3, cells := 0, slots := 0, locals := 68 }, yX10_presentSky, some (.object "EclipseCheese$Sky"), [])
def mX10_presentNight : cz_M := (10, cX10_presentNight, 1, { frames := 5, cells := 0, slots := 0, locals := 121 }, yX10_presentNight, some (.object "EclipseCheese$Night"), [])
def mX10_allTurners : cz_M := (10, cX10_allTurners, 1, { frames := 0, cells := 0, slots := 0, locals := 0 }, yX10_allTurners, some .int, [])
def mX10_allCalls : cz_M := (10, cX10_allCalls, 1, { frames := 0, cells := 0, slots := 0, locals := 0 }, yX10_allCalls, some .int, [])
def mX10_eventCount : cz_M := (10, cX10_eventCount, 1, { frames := 0, cells := 0, slots := 0, locals := 0 }, yX10_eventCount, some .int, [])
def mX10_eventFrom : cz_M := (10, cX10_eventFrom, 2, { frames := 0, cells := 0, slots := 0, locals := 0 }, yX10_eventFrom, some .int, [])
def mX10_eventTo : cz_M := (10, cX10_eventTo, 2, { frames := 0, cells := 0, slots := 0, locals := 0 }, yX10_eventTo, some .int, [])
def mX10_veinMinute : cz_M := (10, cX10_veinMinute, 3, { frames := 6, cells := 0, slots := 0, locals := 141 }, yX10_veinMinute, some .int, [])
def mX10_bestCalls : cz_M := (10, cX10_bestCalls, 6, { frames := 5, cells := 0, slots := 0, locals := 121 }, yX10_bestCalls, some .int, [])
def mX10_fewestTurners : cz_M := (10, cX10_fewestTurners, 3, { frames := 6, cells := 0, slots := 0, locals := 141 }, yX10_fewestTurners, some .int, [])
def mX11_init : cz_M := (11, cX11_init, 1, { frames := 1, cells := 23, slots := 214, locals := 12 }, yX11_init, none, [])
def mX11_find : cz_M := (11, cX11_find, 4, { frames := 0, cells := 0, slots := 0, locals := 0 }, yX11_find, some .int, [1])
def mX12_init : cz_M := (12, cX12_init, 1, { frames := 1, cells := 18, slots := 8632, locals := 12 }, yX12_init, none, [])
def mX12_refused : cz_M := (12, cX12_refused, 2, { frames := 0, cells := 0, slots := 0, locals := 0 }, yX12_refused, some .int, [])
def mX12_lost : cz_M := (12, cX12_lost, 2, { frames := 1, cells := 0, slots := 0, locals := 21 }, yX12_lost, some .int, [])
def mX12_denied : cz_M := (12, cX12_denied, 2, { frames := 1, cells := 0, slots := 0, locals := 21 }, yX12_denied, some .boolean, [])
def mX12_good : cz_M := (12, cX12_good, 2, { frames := 0, cells := 0, slots := 0, locals := 0 }, yX12_good, some .int, [])
def mX12_granted : cz_M := (12, cX12_granted, 1, { frames := 1, cells := 0, slots := 0, locals := 21 }, yX12_granted, some .boolean, [])
def mX12_in : cz_M := (12, cX12_in, 3, { frames := 0, cells := 0, slots := 0, locals := 0 }, yX12_in, some .boolean, [])
def mX12_has : cz_M := (12, cX12_has, 2, { frames := 0, cells := 0, slots := 0, locals := 0 }, yX12_has, some .boolean, [])
def mX12_bits : cz_M := (12, cX12_bits, 3, { frames := 0, cells := 0, slots := 0, locals := 0 }, yX12_bits, some .int, [])
def mX12_byteAt : cz_M := (12, cX12_byteAt, 2, { frames := 0, cells := 0, slots := 0, locals := 0 }, yX12_byteAt, some .int, [])
def mX12_isLetter : cz_M := (12, cX12_isLetter, 1, { frames := 0, cells := 0, slots := 0, locals := 0 }, yX12_isLetter, some .boolean, [])
def mX12_isDigit : cz_M := (12, cX12_isDigit, 1, { frames := 0, cells := 0, slots := 0, locals := 0 }, yX12_isDigit, some .boolean, [])
def mX12_wordOf : cz_M := (12, cX12_wordOf, 4, { frames := 5, cells := 0, slots := 0, locals := 106 }, yX12_wordOf, some .long, [1])
def mX12_goesOn : cz_M := (12, cX12_goesOn, 3, { frames := 1, cells := 0, slots := 0, locals := 21 }, yX12_goesOn, none, [])
def mX12_flaw : cz_M := (12, cX12_flaw, 2, { frames := 0, cells := 0, slots := 0, locals := 0 }, yX12_flaw, none, [])
def mX12_isWord : cz_M := (12, cX12_isWord, 2, { frames := 6, cells := 0, slots := 0, locals := 129 }, yX12_isWord, some .boolean, [])
def mX12_eatsWord : cz_M := (12, cX12_eatsWord, 3, { frames := 7, cells := 0, slots := 0, locals := 150 }, yX12_eatsWord, some .boolean, [])
def mX12_eatsSign : cz_M := (12, cX12_eatsSign, 3, { frames := 2, cells := 0, slots := 0, locals := 43 }, yX12_eatsSign, some .boolean, [])
def mX12_needs : cz_M := (12, cX12_needs, 2, { frames := 7, cells := 0, slots := 0, locals := 150 }, yX12_needs, none, [])
def mX12_needsSign : cz_M := (12, cX12_needsSign, 2, { frames := 2, cells := 0, slots := 0, locals := 43 }, yX12_needsSign, none, [])
def mX12_bounded : cz_M := (12, cX12_bounded, 3, { frames := 1, cells := 0, slots := 0, locals := 22 }, yX12_bounded, some .int, [])
def mX12_readWhole : cz_M := (12, cX12_readWhole, 4, { frames := 2, cells := 0, slots := 0, locals := 44 }, yX12_readWhole, some .int, [])
def mX12_readPart : cz_M := (12, cX12_readPart, 4, { frames := 8, cells := 0, slots := 0, locals := 171 }, yX12_readPart, some .int, [])
def mX12_isName : cz_M := (12, cX12_isName, 1, { frames := 7, cells := 0, slots := 0, locals := 150 }, yX12_isName, some .boolean, [])
def mX12_begins : cz_M := (12, cX12_begins, 3, { frames := 2, cells := 0, slots := 0, locals := 43 }, yX12_begins, none, [])
def mX12_readFresh : cz_M := (12, cX12_readFresh, 3, { frames := 8, cells := 0, slots := 0, locals := 170 }, yX12_readFresh, some .long, [1])
def mX12_names : cz_M := (12, cX12_names, 5, { frames := 0, cells := 0, slots := 0, locals := 0 }, yX12_names, none, [1])
def mX12_readAll : cz_M := (12, cX12_readAll, 2, { frames := 11, cells := 0, slots := 0, locals := 244 }, yX12_readAll, none, [])
def mX12_readLine : cz_M := (12, cX12_readLine, 1, { frames := 10, cells := 0, slots := 0, locals := 224 }, yX12_readLine, none, [])
def mX12_readAlp : cz_M := (12, cX12_readAlp, 4, { frames := 9, cells := 0, slots := 0, locals := 194 }, yX12_readAlp, none, [])
def mX12_readEvent : cz_M := (12, cX12_readEvent, 6, { frames := 9, cells := 0, slots := 0, locals := 194 }, yX12_readEvent, none, [])
def mX12_readCheese : cz_M := (12, cX12_readCheese, 5, { frames := 9, cells := 0, slots := 0, locals := 194 }, yX12_readCheese, none, [1])
def mX12_readRising : cz_M := (12, cX12_readRising, 8, { frames := 3, cells := 0, slots := 0, locals := 65 }, yX12_readRising, some .int, [])
def mX12_readAlmanac : cz_M := (12, cX12_readAlmanac, 2, { frames := 4, cells := 0, slots := 0, locals := 92 }, yX12_readAlmanac, none, [])
def mX12_readTurner : cz_M := (12, cX12_readTurner, 11, { frames := 9, cells := 0, slots := 0, locals := 194 }, yX12_readTurner, none, [1])
def mX12_readCall : cz_M := (12, cX12_readCall, 6, { frames := 9, cells := 0, slots := 0, locals := 194 }, yX12_readCall, none, [])
def mX12_readSlice : cz_M := (12, cX12_readSlice, 2, { frames := 4, cells := 0, slots := 0, locals := 92 }, yX12_readSlice, none, [])
def mX12_feed : cz_M := (12, cX12_feed, 8, { frames := 0, cells := 0, slots := 0, locals := 0 }, yX12_feed, some .int, [])
def mX12_alp : cz_M := (12, cX12_alp, 3, { frames := 12, cells := 24, slots := 247, locals := 265 }, yX12_alp, some .int, [])
def mX12_fault : cz_M := (12, cX12_fault, 1, { frames := 0, cells := 0, slots := 0, locals := 0 }, yX12_fault, some .int, [])
def mX12_where : cz_M := (12, cX12_where, 1, { frames := 0, cells := 0, slots := 0, locals := 0 }, yX12_where, some .int, [])
def mX12_events : cz_M := (12, cX12_events, 1, { frames := 0, cells := 0, slots := 0, locals := 0 }, yX12_events, some .int, [])
def mX12_kindOf : cz_M := (12, cX12_kindOf, 2, { frames := 0, cells := 0, slots := 0, locals := 0 }, yX12_kindOf, some .int, [])
def mX12_hutOf : cz_M := (12, cX12_hutOf, 2, { frames := 0, cells := 0, slots := 0, locals := 0 }, yX12_hutOf, some .int, [])
def mX12_fromOf : cz_M := (12, cX12_fromOf, 2, { frames := 0, cells := 0, slots := 0, locals := 0 }, yX12_fromOf, some .int, [])
def mX12_toOf : cz_M := (12, cX12_toOf, 2, { frames := 0, cells := 0, slots := 0, locals := 0 }, yX12_toOf, some .int, [])
def mX12_laysLight : cz_M := (12, cX12_laysLight, 4, { frames := 2, cells := 0, slots := 0, locals := 43 }, yX12_laysLight, none, [])
def mX12_marksLight : cz_M := (12, cX12_marksLight, 3, { frames := 1, cells := 0, slots := 0, locals := 21 }, yX12_marksLight, none, [])
def mX12_changesIn : cz_M := (12, cX12_changesIn, 3, { frames := 0, cells := 0, slots := 0, locals := 0 }, yX12_changesIn, some .boolean, [])
def mX12_seemsToIn : cz_M := (12, cX12_seemsToIn, 3, { frames := 0, cells := 0, slots := 0, locals := 0 }, yX12_seemsToIn, some .boolean, [])
def mX12_isInAlmanac : cz_M := (12, cX12_isInAlmanac, 3, { frames := 0, cells := 0, slots := 0, locals := 0 }, yX12_isInAlmanac, some .boolean, [])
def mX12_noticesIn : cz_M := (12, cX12_noticesIn, 5, { frames := 1, cells := 0, slots := 0, locals := 22 }, yX12_noticesIn, some .boolean, [])
def mX12_isAwake : cz_M := (12, cX12_isAwake, 5, { frames := 1, cells := 0, slots := 0, locals := 22 }, yX12_isAwake, some .boolean, [])
def mX12_goes : cz_M := (12, cX12_goes, 5, { frames := 3, cells := 0, slots := 0, locals := 71 }, yX12_goes, some .int, [])
def mX12_turns : cz_M := (12, cX12_turns, 6, { frames := 2, cells := 0, slots := 0, locals := 46 }, yX12_turns, none, [])
def mX12_notes : cz_M := (12, cX12_notes, 7, { frames := 1, cells := 0, slots := 0, locals := 22 }, yX12_notes, none, [])
def mX12_priceOf : cz_M := (12, cX12_priceOf, 3, { frames := 0, cells := 0, slots := 0, locals := 0 }, yX12_priceOf, some .int, [])
def mX12_everybody : cz_M := (12, cX12_everybody, 1, { frames := 0, cells := 0, slots := 0, locals := 0 }, yX12_everybody, some .int, [])
def mX12_tonight : cz_M := (12, cX12_tonight, 1, { frames := 4, cells := 0, slots := 0, locals := 95 }, yX12_tonight, some .int, [])
def mX12_isHut : cz_M := (12, cX12_isHut, 2, { frames := 0, cells := 0, slots := 0, locals := 0 }, yX12_isHut, some .boolean, [])
def mX12_isTurner : cz_M := (12, cX12_isTurner, 2, { frames := 0, cells := 0, slots := 0, locals := 0 }, yX12_isTurner, some .boolean, [])
def mX12_isCheese : cz_M := (12, cX12_isCheese, 2, { frames := 0, cells := 0, slots := 0, locals := 0 }, yX12_isCheese, some .boolean, [])
def mX12_isMinute : cz_M := (12, cX12_isMinute, 2, { frames := 1, cells := 0, slots := 0, locals := 22 }, yX12_isMinute, some .boolean, [])
def mX12_sky : cz_M := (12, cX12_sky, 2, { frames := 3, cells := 0, slots := 0, locals := 66 }, yX12_sky, some .int, [])
def mX12_light : cz_M := (12, cX12_light, 4, { frames := 3, cells := 0, slots := 0, locals := 66 }, yX12_light, some .int, [])
def mX12_changes : cz_M := (12, cX12_changes, 5, { frames := 3, cells := 0, slots := 0, locals := 66 }, yX12_changes, some .int, [])
def mX12_change : cz_M := (12, cX12_change, 5, { frames := 3, cells := 0, slots := 0, locals := 66 }, yX12_change, some .int, [])
def mX12_dueIn : cz_M := (12, cX12_dueIn, 4, { frames := 1, cells := 0, slots := 0, locals := 22 }, yX12_dueIn, some .int, [])
def mX12_peak : cz_M := (12, cX12_peak, 3, { frames := 3, cells := 0, slots := 0, locals := 66 }, yX12_peak, some .int, [])
def mX12_due : cz_M := (12, cX12_due, 2, { frames := 3, cells := 0, slots := 0, locals := 66 }, yX12_due, some .int, [])
def mX12_awake : cz_M := (12, cX12_awake, 3, { frames := 3, cells := 0, slots := 0, locals := 66 }, yX12_awake, some .int, [])
def mX12_notices : cz_M := (12, cX12_notices, 4, { frames := 3, cells := 0, slots := 0, locals := 66 }, yX12_notices, some .int, [])
def mX12_work : cz_M := (12, cX12_work, 8, { frames := 5, cells := 0, slots := 0, locals := 115 }, yX12_work, some .int, [])
def mX12_worth : cz_M := (12, cX12_worth, 3, { frames := 5, cells := 0, slots := 0, locals := 115 }, yX12_worth, some .int, [])
def mX12_turned : cz_M := (12, cX12_turned, 3, { frames := 5, cells := 0, slots := 0, locals := 115 }, yX12_turned, some .int, [])
def mX12_up : cz_M := (12, cX12_up, 3, { frames := 5, cells := 0, slots := 0, locals := 115 }, yX12_up, some .int, [])
def mX12_cheese : cz_M := (12, cX12_cheese, 3, { frames := 5, cells := 0, slots := 0, locals := 115 }, yX12_cheese, some .int, [])
def mX12_veinAt : cz_M := (12, cX12_veinAt, 5, { frames := 0, cells := 0, slots := 0, locals := 0 }, yX12_veinAt, some .int, [])
def mX12_vein : cz_M := (12, cX12_vein, 4, { frames := 5, cells := 0, slots := 0, locals := 115 }, yX12_vein, some .int, [])
def mX12_cause : cz_M := (12, cX12_cause, 5, { frames := 5, cells := 0, slots := 0, locals := 115 }, yX12_cause, some .int, [])
def mX12_total : cz_M := (12, cX12_total, 1, { frames := 5, cells := 0, slots := 0, locals := 115 }, yX12_total, some .int, [])
def mX12_isEvent : cz_M := (12, cX12_isEvent, 2, { frames := 1, cells := 0, slots := 0, locals := 20 }, yX12_isEvent, some .boolean, [])
def mX12_without : cz_M := (12, cX12_without, 3, { frames := 5, cells := 0, slots := 0, locals := 115 }, yX12_without, some .int, [])
def mX12_wakeNow : cz_M := (12, cX12_wakeNow, 4, { frames := 4, cells := 0, slots := 0, locals := 95 }, yX12_wakeNow, some .int, [])
def mX12_wake : cz_M := (12, cX12_wake, 1, { frames := 5, cells := 0, slots := 0, locals := 118 }, yX12_wake, some .int, [])
def mX12_wakeTotal : cz_M := (12, cX12_wakeTotal, 1, { frames := 5, cells := 0, slots := 0, locals := 118 }, yX12_wakeTotal, some .int, [])
def mX12_missesNone : cz_M := (12, cX12_missesNone, 3, { frames := 4, cells := 0, slots := 0, locals := 95 }, yX12_missesNone, some .boolean, [])
def mX12_fewestNow : cz_M := (12, cX12_fewestNow, 3, { frames := 5, cells := 0, slots := 0, locals := 117 }, yX12_fewestNow, some .int, [])
def mX12_fewest : cz_M := (12, cX12_fewest, 2, { frames := 6, cells := 0, slots := 0, locals := 139 }, yX12_fewest, some .int, [])
def mX12_fewestBy : cz_M := (12, cX12_fewestBy, 1, { frames := 6, cells := 0, slots := 0, locals := 139 }, yX12_fewestBy, some .int, [])
def mX12_isSlice : cz_M := (12, cX12_isSlice, 2, { frames := 0, cells := 0, slots := 0, locals := 0 }, yX12_isSlice, some .boolean, [])
def mX12_fitsNow : cz_M := (12, cX12_fitsNow, 6, { frames := 0, cells := 0, slots := 0, locals := 0 }, yX12_fitsNow, some .int, [])
def mX12_fits : cz_M := (12, cX12_fits, 2, { frames := 5, cells := 0, slots := 0, locals := 115 }, yX12_fits, some .int, [])
def mX12_by : cz_M := (12, cX12_by, 4, { frames := 4, cells := 0, slots := 0, locals := 95 }, yX12_by, some .int, [])
def mX12_comes : cz_M := (12, cX12_comes, 3, { frames := 0, cells := 0, slots := 0, locals := 0 }, yX12_comes, none, [])
def mX12_drawOf : cz_M := (12, cX12_drawOf, 2, { frames := 0, cells := 0, slots := 0, locals := 0 }, yX12_drawOf, some .int, [])
def mX12_draws : cz_M := (12, cX12_draws, 3, { frames := 1, cells := 0, slots := 0, locals := 22 }, yX12_draws, some .int, [])
def mX12_nights : cz_M := (12, cX12_nights, 7, { frames := 5, cells := 0, slots := 0, locals := 115 }, yX12_nights, some .int, [])
def mX12_keeps : cz_M := (12, cX12_keeps, 2, { frames := 0, cells := 0, slots := 0, locals := 0 }, yX12_keeps, none, [])
def mX12_call : cz_M := (12, cX12_call, 3, { frames := 2, cells := 0, slots := 0, locals := 42 }, yX12_call, some .boolean, [])
def mX12_calls : cz_M := (12, cX12_calls, 1, { frames := 1, cells := 0, slots := 0, locals := 21 }, yX12_calls, some .int, [])
def mX12_cloud : cz_M := (12, cX12_cloud, 3, { frames := 2, cells := 0, slots := 0, locals := 43 }, yX12_cloud, some .boolean, [])
def mX12_draw : cz_M := (12, cX12_draw, 1, { frames := 2, cells := 0, slots := 0, locals := 44 }, yX12_draw, some .int, [])
def mX12_lift : cz_M := (12, cX12_lift, 1, { frames := 2, cells := 0, slots := 0, locals := 42 }, yX12_lift, some .boolean, [])
def mX12_seed : cz_M := (12, cX12_seed, 2, { frames := 2, cells := 0, slots := 0, locals := 42 }, yX12_seed, some .boolean, [])
def mX12_undo : cz_M := (12, cX12_undo, 2, { frames := 2, cells := 0, slots := 0, locals := 42 }, yX12_undo, some .boolean, [])
def mX12_mark : cz_M := (12, cX12_mark, 2, { frames := 1, cells := 0, slots := 0, locals := 21 }, yX12_mark, some .int, [])
def mX12_back : cz_M := (12, cX12_back, 3, { frames := 2, cells := 0, slots := 0, locals := 42 }, yX12_back, some .boolean, [])
def mX12_event : cz_M := (12, cX12_event, 3, { frames := 2, cells := 0, slots := 0, locals := 41 }, yX12_event, some .int, [])
def mX12_led : cz_M := (12, cX12_led, 4, { frames := 5, cells := 0, slots := 0, locals := 115 }, yX12_led, some .int, [])
def mX12_size : cz_M := (12, cX12_size, 2, { frames := 1, cells := 0, slots := 0, locals := 22 }, yX12_size, some .int, [])
def mX12_trouble : cz_M := (12, cX12_trouble, 1, { frames := 0, cells := 0, slots := 0, locals := 0 }, yX12_trouble, some .int, [])
def mJ6_bitCount_0f7a4 : cz_M := (14, cJ6_bitCount_0f7a4, 1, { frames := 0, cells := 0, slots := 0, locals := 0 }, yJ6_bitCount_0f7a4, some .int, [])
def mJ9_max_7cf53 : cz_M := (15, cJ9_max_7cf53, 2, { frames := 0, cells := 0, slots := 0, locals := 0 }, yJ9_max_7cf53, some .int, [])
def mJ9_min_7cf53 : cz_M := (15, cJ9_min_7cf53, 2, { frames := 0, cells := 0, slots := 0, locals := 0 }, yJ9_min_7cf53, some .int, [])
def mJ0_length_8abf5 : cz_M := (17, cJ0_length_8abf5, 1, { frames := 1, cells := 0, slots := 0, locals := 20 }, yJ0_length_8abf5, some .int, [])
def mJ0_charAt_5068e : cz_M := (17, cJ0_charAt_5068e, 2, { frames := 4, cells := 0, slots := 0, locals := 85 }, yJ0_charAt_5068e, some .char, [])
def mJ0_coder_7d493 : cz_M := (17, cJ0_coder_7d493, 1, { frames := 0, cells := 0, slots := 0, locals := 0 }, yJ0_coder_7d493, some .byte, [])
def mJ0_isLatin1_aae02 : cz_M := (17, cJ0_isLatin1_aae02, 1, { frames := 0, cells := 0, slots := 0, locals := 0 }, yJ0_isLatin1_aae02, some .boolean, [])
def mJ0_checkIndex_df160 : cz_M := (17, cJ0_checkIndex_df160, 2, { frames := 1, cells := 0, slots := 0, locals := 22 }, yJ0_checkIndex_df160, none, [])
def mJ1_charAt_3b067 : cz_M := (18, cJ1_charAt_3b067, 2, { frames := 2, cells := 0, slots := 0, locals := 43 }, yJ1_charAt_3b067, some .char, [])
def mJ7_fill_53178 : cz_M := (16, cJ7_fill_53178, 4, { frames := 0, cells := 0, slots := 0, locals := 0 }, yJ7_fill_53178, none, [])
def mJ3_checkIndex_8e157 : cz_M := (19, cJ3_checkIndex_8e157, 3, { frames := 0, cells := 0, slots := 0, locals := 0 }, yJ3_checkIndex_8e157, some .int, [])
def mL_led : cz_M := (13, cL_led, 4, { frames := 7, cells := 1, slots := 6, locals := 165 }, yL_led, some .int, [])
def mL_law : cz_M := (13, code, 7, room_1, yL_law, some .boolean, [])
/-! ===== the words, many in one go ===== -/
set_option maxRecDepth 20000 in
theorem bq0 : Cond.selects (cz_on 10) (cz_nm mX10_putBytes) (cz_nm mX10_putBytes) ∈ cz_T ∧ Cond.selects (cz_on 10) (cz_nm mX10_refused) (cz_nm mX10_refused) ∈ cz_T ∧ Cond.selects (cz_on 7) (cz_nm mX7_step) (cz_nm mX7_step) ∈ cz_T ∧ Cond.selects (cz_on 7) (cz_nm mX7_stepWord) (cz_nm mX7_stepWord) ∈ cz_T ∧ Cond.selects (cz_on 7) (cz_nm mX7_stepWhole) (cz_nm mX7_stepWhole) ∈ cz_T ∧ Cond.selects (cz_on 7) (cz_nm mX7_readLine) (cz_nm mX7_readLine) ∈ cz_T ∧ Cond.selects (cz_on 7) (cz_nm mX7_sortOfWord) (cz_nm mX7_sortOfWord) ∈ cz_T ∧ Cond.selects (cz_on 7) (cz_nm mX7_fail) (cz_nm mX7_fail) ∈ cz_T ∧ Cond.selects (cz_on 7) (cz_nm mX7_isToldAgain) (cz_nm mX7_isToldAgain) ∈ cz_T ∧ Cond.selects (cz_on 7) (cz_nm mX7_isFull) (cz_nm mX7_isFull) ∈ cz_T ∧ Cond.selects (cz_on 7) (cz_nm mX7_readAlp) (cz_nm mX7_readAlp) ∈ cz_T ∧ Cond.selects (cz_on 7) (cz_nm mX7_takeWord) (cz_nm mX7_takeWord) ∈ cz_T ∧ Cond.selects (cz_on 7) (cz_nm mX7_seesWord) (cz_nm mX7_seesWord) ∈ cz_T ∧ Cond.selects (cz_on 7) (cz_nm mX7_takeWhole) (cz_nm mX7_takeWhole) ∈ cz_T ∧ Cond.selects (cz_on 7) (cz_nm mX7_seesWhole) (cz_nm mX7_seesWhole) ∈ cz_T ∧ Cond.selects (cz_on 7) (cz_nm mX7_takeComma) (cz_nm mX7_takeComma) ∈ cz_T ∧ Cond.selects (cz_on 7) (cz_nm mX7_readCheese) (cz_nm mX7_readCheese) ∈ cz_T ∧ Cond.selects (cz_on 7) (cz_nm mX7_seesNewName) (cz_nm mX7_seesNewName) ∈ cz_T ∧ Cond.selects (cz_on 7) (cz_nm mX7_seesName) (cz_nm mX7_seesName) ∈ cz_T ∧ Cond.selects (cz_on 7) (cz_nm mX7_isToldCheese) (cz_nm mX7_isToldCheese) ∈ cz_T ∧ Cond.selects (cz_on 7) (cz_nm mX7_namedTurner) (cz_nm mX7_namedTurner) ∈ cz_T ∧ Cond.selects (cz_on 7) (cz_nm mX7_takeHut) (cz_nm mX7_takeHut) ∈ cz_T ∧ Cond.selects (cz_on 7) (cz_nm mX7_readMinutes) (cz_nm mX7_readMinutes) ∈ cz_T ∧ Cond.selects (cz_on 7) (cz_nm mX7_readTurner) (cz_nm mX7_readTurner) ∈ cz_T ∧ Cond.selects (cz_on 7) (cz_nm mX7_turnerKind) (cz_nm mX7_turnerKind) ∈ cz_T ∧ Cond.selects (cz_on 7) (cz_nm mX7_takeSpan) (cz_nm mX7_takeSpan) ∈ cz_T ∧ Cond.selects (cz_on 7) (cz_nm mX7_readHuts) (cz_nm mX7_readHuts) ∈ cz_T ∧ Cond.selects (cz_on 7) (cz_nm mX7_readCall) (cz_nm mX7_readCall) ∈ cz_T ∧ Cond.selects (cz_on 7) (cz_nm mX7_readEvent) (cz_nm mX7_readEvent) ∈ cz_T ∧ Cond.selects (cz_on 10) (cz_nm mX10_cloudsMoved) (cz_nm mX10_cloudsMoved) ∈ cz_T ∧ True := bw_okT (gs := [0, 0, 0, 0, 0, 0, 0, 0, 0, 0, 0, 0, 0, 0, 0, 0, 0, 0, 0, 0, 0, 0, 0, 0, 0, 0, 0, 0, 0, 0]) (L := (k2_sels lw_privs)) (ws := [Cond.selects (cz_on 10) (cz_nm mX10_putBytes) (cz_nm mX10_putBytes), Cond.selects (cz_on 10) (cz_nm mX10_refused) (cz_nm mX10_refused), Cond.selects (cz_on 7) (cz_nm mX7_step) (cz_nm mX7_step), Cond.selects (cz_on 7) (cz_nm mX7_stepWord) (cz_nm mX7_stepWord), Cond.selects (cz_on 7) (cz_nm mX7_stepWhole) (cz_nm mX7_stepWhole), Cond.selects (cz_on 7) (cz_nm mX7_readLine) (cz_nm mX7_readLine), Cond.selects (cz_on 7) (cz_nm mX7_sortOfWord) (cz_nm mX7_sortOfWord), Cond.selects (cz_on 7) (cz_nm mX7_fail) (cz_nm mX7_fail), Cond.selects (cz_on 7) (cz_nm mX7_isToldAgain) (cz_nm mX7_isToldAgain), Cond.selects (cz_on 7) (cz_nm mX7_isFull) (cz_nm mX7_isFull), Cond.selects (cz_on 7) (cz_nm mX7_readAlp) (cz_nm mX7_readAlp), Cond.selects (cz_on 7) (cz_nm mX7_takeWord) (cz_nm mX7_takeWord), Cond.selects (cz_on 7) (cz_nm mX7_seesWord) (cz_nm mX7_seesWord), Cond.selects (cz_on 7) (cz_nm mX7_takeWhole) (cz_nm mX7_takeWhole), Cond.selects (cz_on 7) (cz_nm mX7_seesWhole) (cz_nm mX7_seesWhole), Cond.selects (cz_on 7) (cz_nm mX7_takeComma) (cz_nm mX7_takeComma), Cond.selects (cz_on 7) (cz_nm mX7_readCheese) (cz_nm mX7_readCheese), Cond.selects (cz_on 7) (cz_nm mX7_seesNewName) (cz_nm mX7_seesNewName), Cond.selects (cz_on 7) (cz_nm mX7_seesName) (cz_nm mX7_seesName), Cond.selects (cz_on 7) (cz_nm mX7_isToldCheese) (cz_nm mX7_isToldCheese), Cond.selects (cz_on 7) (cz_nm mX7_namedTurner) (cz_nm mX7_namedTurner), Cond.selects (cz_on 7) (cz_nm mX7_takeHut) (cz_nm mX7_takeHut), Cond.selects (cz_on 7) (cz_nm mX7_readMinutes) (cz_nm mX7_readMinutes), Cond.selects (cz_on 7) (cz_nm mX7_readTurner) (cz_nm mX7_readTurner), Cond.selects (cz_on 7) (cz_nm mX7_turnerKind) (cz_nm mX7_turnerKind), Cond.selects (cz_on 7) (cz_nm mX7_takeSpan) (cz_nm mX7_takeSpan), Cond.selects (cz_on 7) (cz_nm mX7_readHuts) (cz_nm mX7_readHuts), Cond.selects (cz_on 7) (cz_nm mX7_readCall) (cz_nm mX7_readCall), Cond.selects (cz_on 7) (cz_nm mX7_readEvent) (cz_nm mX7_readEvent), Cond.selects (cz_on 10) (cz_nm mX10_cloudsMoved) (cz_nm mX10_cloudsMoved)]) rfl bw_g0 (by decide +kernel)
set_option maxRecDepth 20000 in
theorem bq1 : Cond.selects (cz_on 10) (cz_nm mX10_answered) (cz_nm mX10_answered) ∈ cz_T ∧ Cond.selects (cz_on 10) (cz_nm mX10_isMinute) (cz_nm mX10_isMinute) ∈ cz_T ∧ Cond.selects (cz_on 10) (cz_nm mX10_presentSky) (cz_nm mX10_presentSky) ∈ cz_T ∧ Cond.selects (cz_on 8) (cz_nm mX8_wipe) (cz_nm mX8_wipe) ∈ cz_T ∧ Cond.selects (cz_on 8) (cz_nm mX8_layEvent) (cz_nm mX8_layEvent) ∈ cz_T ∧ Cond.selects (cz_on 8) (cz_nm mX8_layCloud) (cz_nm mX8_layCloud) ∈ cz_T ∧ Cond.selects (cz_on 8) (cz_nm mX8_findLight) (cz_nm mX8_findLight) ∈ cz_T ∧ Cond.selects (cz_on 8) (cz_nm mX8_findStirs) (cz_nm mX8_findStirs) ∈ cz_T ∧ Cond.selects (cz_on 10) (cz_nm mX10_isHut) (cz_nm mX10_isHut) ∈ cz_T ∧ Cond.selects (cz_on 10) (cz_nm mX10_isTurner) (cz_nm mX10_isTurner) ∈ cz_T ∧ Cond.selects (cz_on 10) (cz_nm mX10_presentNight) (cz_nm mX10_presentNight) ∈ cz_T ∧ Cond.selects (cz_on 10) (cz_nm mX10_allTurners) (cz_nm mX10_allTurners) ∈ cz_T ∧ Cond.selects (cz_on 5) (cz_nm mX5_forget) (cz_nm mX5_forget) ∈ cz_T ∧ Cond.selects (cz_on 5) (cz_nm mX5_turnAll) (cz_nm mX5_turnAll) ∈ cz_T ∧ Cond.selects (cz_on 5) (cz_nm mX5_isCalled) (cz_nm mX5_isCalled) ∈ cz_T ∧ Cond.selects (cz_on 5) (cz_nm mX5_turnSome) (cz_nm mX5_turnSome) ∈ cz_T ∧ Cond.selects (cz_on 5) (cz_nm mX5_judge) (cz_nm mX5_judge) ∈ cz_T ∧ Cond.selects (cz_on 10) (cz_nm mX10_refusedTotal) (cz_nm mX10_refusedTotal) ∈ cz_T ∧ Cond.selects (cz_on 10) (cz_nm mX10_isCheese) (cz_nm mX10_isCheese) ∈ cz_T ∧ Cond.selects (cz_on 5) (cz_nm mX5_isTurned) (cz_nm mX5_isTurned) ∈ cz_T ∧ Cond.selects (cz_on 10) (cz_nm mX10_veinMinute) (cz_nm mX10_veinMinute) ∈ cz_T ∧ Cond.selects (cz_on 10) (cz_nm mX10_eventCount) (cz_nm mX10_eventCount) ∈ cz_T ∧ Cond.selects (cz_on 10) (cz_nm mX10_eventFrom) (cz_nm mX10_eventFrom) ∈ cz_T ∧ Cond.selects (cz_on 10) (cz_nm mX10_eventTo) (cz_nm mX10_eventTo) ∈ cz_T ∧ Cond.selects (cz_on 10) (cz_nm mX10_isEvent) (cz_nm mX10_isEvent) ∈ cz_T ∧ Cond.selects (cz_on 10) (cz_nm mX10_bestCalls) (cz_nm mX10_bestCalls) ∈ cz_T ∧ Cond.selects (cz_on 10) (cz_nm mX10_allCalls) (cz_nm mX10_allCalls) ∈ cz_T ∧ Cond.selects (cz_on 10) (cz_nm mX10_fewestTurners) (cz_nm mX10_fewestTurners) ∈ cz_T ∧ Cond.selects (cz_on 10) (cz_nm mX10_isSlice) (cz_nm mX10_isSlice) ∈ cz_T ∧ Cond.selects (cz_on 5) (cz_nm mX5_hasJustVeins) (cz_nm mX5_hasJustVeins) ∈ cz_T ∧ True := bw_okT (gs := [30, 0, 0, 0, 0, 0, 0, 0, 0, 0, 0, 0, 0, 0, 0, 0, 0, 0, 0, 0, 0, 0, 0, 0, 0, 0, 0, 0, 0, 0]) (L := (k2_sels lw_privs)) (ws := [Cond.selects (cz_on 10) (cz_nm mX10_answered) (cz_nm mX10_answered), Cond.selects (cz_on 10) (cz_nm mX10_isMinute) (cz_nm mX10_isMinute), Cond.selects (cz_on 10) (cz_nm mX10_presentSky) (cz_nm mX10_presentSky), Cond.selects (cz_on 8) (cz_nm mX8_wipe) (cz_nm mX8_wipe), Cond.selects (cz_on 8) (cz_nm mX8_layEvent) (cz_nm mX8_layEvent), Cond.selects (cz_on 8) (cz_nm mX8_layCloud) (cz_nm mX8_layCloud), Cond.selects (cz_on 8) (cz_nm mX8_findLight) (cz_nm mX8_findLight), Cond.selects (cz_on 8) (cz_nm mX8_findStirs) (cz_nm mX8_findStirs), Cond.selects (cz_on 10) (cz_nm mX10_isHut) (cz_nm mX10_isHut), Cond.selects (cz_on 10) (cz_nm mX10_isTurner) (cz_nm mX10_isTurner), Cond.selects (cz_on 10) (cz_nm mX10_presentNight) (cz_nm mX10_presentNight), Cond.selects (cz_on 10) (cz_nm mX10_allTurners) (cz_nm mX10_allTurners), Cond.selects (cz_on 5) (cz_nm mX5_forget) (cz_nm mX5_forget), Cond.selects (cz_on 5) (cz_nm mX5_turnAll) (cz_nm mX5_turnAll), Cond.selects (cz_on 5) (cz_nm mX5_isCalled) (cz_nm mX5_isCalled), Cond.selects (cz_on 5) (cz_nm mX5_turnSome) (cz_nm mX5_turnSome), Cond.selects (cz_on 5) (cz_nm mX5_judge) (cz_nm mX5_judge), Cond.selects (cz_on 10) (cz_nm mX10_refusedTotal) (cz_nm mX10_refusedTotal), Cond.selects (cz_on 10) (cz_nm mX10_isCheese) (cz_nm mX10_isCheese), Cond.selects (cz_on 5) (cz_nm mX5_isTurned) (cz_nm mX5_isTurned), Cond.selects (cz_on 10) (cz_nm mX10_veinMinute) (cz_nm mX10_veinMinute), Cond.selects (cz_on 10) (cz_nm mX10_eventCount) (cz_nm mX10_eventCount), Cond.selects (cz_on 10) (cz_nm mX10_eventFrom) (cz_nm mX10_eventFrom), Cond.selects (cz_on 10) (cz_nm mX10_eventTo) (cz_nm mX10_eventTo), Cond.selects (cz_on 10) (cz_nm mX10_isEvent) (cz_nm mX10_isEvent), Cond.selects (cz_on 10) (cz_nm mX10_bestCalls) (cz_nm mX10_bestCalls), Cond.selects (cz_on 10) (cz_nm mX10_allCalls) (cz_nm mX10_allCalls), Cond.selects (cz_on 10) (cz_nm mX10_fewestTurners) (cz_nm mX10_fewestTurners), Cond.selects (cz_on 10) (cz_nm mX10_isSlice) (cz_nm mX10_isSlice), Cond.selects (cz_on 5) (cz_nm mX5_hasJustVeins) (cz_nm mX5_hasJustVeins)]) rfl bw_g0 (by decide +kernel)
set_option maxRecDepth 20000 in
theorem bq2 : Cond.selects (cz_on 3) (cz_nm mX3_drawBelow) (cz_nm mX3_drawBelow) ∈ cz_T ∧ Cond.selects (cz_on 10) (cz_nm mX10_refusedAct) (cz_nm mX10_refusedAct) ∈ cz_T ∧ Cond.selects (cz_on 6) (cz_nm mX6_dropOldestAct) (cz_nm mX6_dropOldestAct) ∈ cz_T ∧ Cond.selects (cz_on 10) (cz_nm mX10_allowed) (cz_nm mX10_allowed) ∈ cz_T ∧ Cond.selects (cz_on 12) (cz_nm mX12_refused) (cz_nm mX12_refused) ∈ cz_T ∧ Cond.selects (cz_on 12) (cz_nm mX12_goesOn) (cz_nm mX12_goesOn) ∈ cz_T ∧ Cond.selects (cz_on 12) (cz_nm mX12_byteAt) (cz_nm mX12_byteAt) ∈ cz_T ∧ Cond.selects (cz_on 12) (cz_nm mX12_readAll) (cz_nm mX12_readAll) ∈ cz_T ∧ Cond.selects (cz_on 12) (cz_nm mX12_readLine) (cz_nm mX12_readLine) ∈ cz_T ∧ Cond.selects (cz_on 12) (cz_nm mX12_isWord) (cz_nm mX12_isWord) ∈ cz_T ∧ Cond.selects (cz_on 12) (cz_nm mX12_readAlp) (cz_nm mX12_readAlp) ∈ cz_T ∧ Cond.selects (cz_on 12) (cz_nm mX12_flaw) (cz_nm mX12_flaw) ∈ cz_T ∧ Cond.selects (cz_on 12) (cz_nm mX12_readPart) (cz_nm mX12_readPart) ∈ cz_T ∧ Cond.selects (cz_on 12) (cz_nm mX12_needs) (cz_nm mX12_needs) ∈ cz_T ∧ Cond.selects (cz_on 12) (cz_nm mX12_readWhole) (cz_nm mX12_readWhole) ∈ cz_T ∧ Cond.selects (cz_on 12) (cz_nm mX12_bounded) (cz_nm mX12_bounded) ∈ cz_T ∧ Cond.selects (cz_on 12) (cz_nm mX12_needsSign) (cz_nm mX12_needsSign) ∈ cz_T ∧ Cond.selects (cz_on 12) (cz_nm mX12_readEvent) (cz_nm mX12_readEvent) ∈ cz_T ∧ Cond.selects (cz_on 12) (cz_nm mX12_begins) (cz_nm mX12_begins) ∈ cz_T ∧ Cond.selects (cz_on 12) (cz_nm mX12_readCheese) (cz_nm mX12_readCheese) ∈ cz_T ∧ Cond.selects (cz_on 12) (cz_nm mX12_readFresh) (cz_nm mX12_readFresh) ∈ cz_T ∧ Cond.selects (cz_on 12) (cz_nm mX12_isName) (cz_nm mX12_isName) ∈ cz_T ∧ Cond.selects (cz_on 12) (cz_nm mX12_eatsWord) (cz_nm mX12_eatsWord) ∈ cz_T ∧ Cond.selects (cz_on 12) (cz_nm mX12_names) (cz_nm mX12_names) ∈ cz_T ∧ Cond.selects (cz_on 12) (cz_nm mX12_readAlmanac) (cz_nm mX12_readAlmanac) ∈ cz_T ∧ Cond.selects (cz_on 12) (cz_nm mX12_readRising) (cz_nm mX12_readRising) ∈ cz_T ∧ Cond.selects (cz_on 12) (cz_nm mX12_eatsSign) (cz_nm mX12_eatsSign) ∈ cz_T ∧ Cond.selects (cz_on 12) (cz_nm mX12_readTurner) (cz_nm mX12_readTurner) ∈ cz_T ∧ Cond.selects (cz_on 12) (cz_nm mX12_readCall) (cz_nm mX12_readCall) ∈ cz_T ∧ Cond.selects (cz_on 12) (cz_nm mX12_readSlice) (cz_nm mX12_readSlice) ∈ cz_T ∧ True := bw_okT (gs := [60, 0, 0, 0, 1, 0, 0, 0, 0, 0, 0, 0, 0, 0, 0, 0, 0, 0, 0, 0, 0, 0, 0, 0, 0, 0, 0, 0, 0, 0]) (L := (k2_sels lw_privs)) (ws := [Cond.selects (cz_on 3) (cz_nm mX3_drawBelow) (cz_nm mX3_drawBelow), Cond.selects (cz_on 10) (cz_nm mX10_refusedAct) (cz_nm mX10_refusedAct), Cond.selects (cz_on 6) (cz_nm mX6_dropOldestAct) (cz_nm mX6_dropOldestAct), Cond.selects (cz_on 10) (cz_nm mX10_allowed) (cz_nm mX10_allowed), Cond.selects (cz_on 12) (cz_nm mX12_refused) (cz_nm mX12_refused), Cond.selects (cz_on 12) (cz_nm mX12_goesOn) (cz_nm mX12_goesOn), Cond.selects (cz_on 12) (cz_nm mX12_byteAt) (cz_nm mX12_byteAt), Cond.selects (cz_on 12) (cz_nm mX12_readAll) (cz_nm mX12_readAll), Cond.selects (cz_on 12) (cz_nm mX12_readLine) (cz_nm mX12_readLine), Cond.selects (cz_on 12) (cz_nm mX12_isWord) (cz_nm mX12_isWord), Cond.selects (cz_on 12) (cz_nm mX12_readAlp) (cz_nm mX12_readAlp), Cond.selects (cz_on 12) (cz_nm mX12_flaw) (cz_nm mX12_flaw), Cond.selects (cz_on 12) (cz_nm mX12_readPart) (cz_nm mX12_readPart), Cond.selects (cz_on 12) (cz_nm mX12_needs) (cz_nm mX12_needs), Cond.selects (cz_on 12) (cz_nm mX12_readWhole) (cz_nm mX12_readWhole), Cond.selects (cz_on 12) (cz_nm mX12_bounded) (cz_nm mX12_bounded), Cond.selects (cz_on 12) (cz_nm mX12_needsSign) (cz_nm mX12_needsSign), Cond.selects (cz_on 12) (cz_nm mX12_readEvent) (cz_nm mX12_readEvent), Cond.selects (cz_on 12) (cz_nm mX12_begins) (cz_nm mX12_begins), Cond.selects (cz_on 12) (cz_nm mX12_readCheese) (cz_nm mX12_readCheese), Cond.selects (cz_on 12) (cz_nm mX12_readFresh) (cz_nm mX12_readFresh), Cond.selects (cz_on 12) (cz_nm mX12_isName) (cz_nm mX12_isName), Cond.selects (cz_on 12) (cz_nm mX12_eatsWord) (cz_nm mX12_eatsWord), Cond.selects (cz_on 12) (cz_nm mX12_names) (cz_nm mX12_names), Cond.selects (cz_on 12) (cz_nm mX12_readAlmanac) (cz_nm mX12_readAlmanac), Cond.selects (cz_on 12) (cz_nm mX12_readRising) (cz_nm mX12_readRising), Cond.selects (cz_on 12) (cz_nm mX12_eatsSign) (cz_nm mX12_eatsSign), Cond.selects (cz_on 12) (cz_nm mX12_readTurner) (cz_nm mX12_readTurner), Cond.selects (cz_on 12) (cz_nm mX12_readCall) (cz_nm mX12_readCall), Cond.selects (cz_on 12) (cz_nm mX12_readSlice) (cz_nm mX12_readSlice)]) rfl bw_g0 (by decide +kernel)
set_option maxRecDepth 20000 in
theorem bq3 : Cond.selects (cz_on 12) (cz_nm mX12_good) (cz_nm mX12_good) ∈ cz_T ∧ Cond.selects (cz_on 12) (cz_nm mX12_isMinute) (cz_nm mX12_isMinute) ∈ cz_T ∧ Cond.selects (cz_on 12) (cz_nm mX12_laysLight) (cz_nm mX12_laysLight) ∈ cz_T ∧ Cond.selects (cz_on 12) (cz_nm mX12_events) (cz_nm mX12_events) ∈ cz_T ∧ Cond.selects (cz_on 12) (cz_nm mX12_fromOf) (cz_nm mX12_fromOf) ∈ cz_T ∧ Cond.selects (cz_on 12) (cz_nm mX12_toOf) (cz_nm mX12_toOf) ∈ cz_T ∧ Cond.selects (cz_on 12) (cz_nm mX12_marksLight) (cz_nm mX12_marksLight) ∈ cz_T ∧ Cond.selects (cz_on 12) (cz_nm mX12_kindOf) (cz_nm mX12_kindOf) ∈ cz_T ∧ Cond.selects (cz_on 12) (cz_nm mX12_hutOf) (cz_nm mX12_hutOf) ∈ cz_T ∧ Cond.selects (cz_on 12) (cz_nm mX12_isHut) (cz_nm mX12_isHut) ∈ cz_T ∧ Cond.selects (cz_on 12) (cz_nm mX12_seemsToIn) (cz_nm mX12_seemsToIn) ∈ cz_T ∧ Cond.selects (cz_on 12) (cz_nm mX12_changesIn) (cz_nm mX12_changesIn) ∈ cz_T ∧ Cond.selects (cz_on 12) (cz_nm mX12_dueIn) (cz_nm mX12_dueIn) ∈ cz_T ∧ Cond.selects (cz_on 12) (cz_nm mX12_isTurner) (cz_nm mX12_isTurner) ∈ cz_T ∧ Cond.selects (cz_on 12) (cz_nm mX12_isAwake) (cz_nm mX12_isAwake) ∈ cz_T ∧ Cond.selects (cz_on 12) (cz_nm mX12_noticesIn) (cz_nm mX12_noticesIn) ∈ cz_T ∧ Cond.selects (cz_on 12) (cz_nm mX12_isInAlmanac) (cz_nm mX12_isInAlmanac) ∈ cz_T ∧ Cond.selects (cz_on 12) (cz_nm mX12_tonight) (cz_nm mX12_tonight) ∈ cz_T ∧ Cond.selects (cz_on 12) (cz_nm mX12_everybody) (cz_nm mX12_everybody) ∈ cz_T ∧ Cond.selects (cz_on 12) (cz_nm mX12_goes) (cz_nm mX12_goes) ∈ cz_T ∧ Cond.selects (cz_on 12) (cz_nm mX12_turns) (cz_nm mX12_turns) ∈ cz_T ∧ Cond.selects (cz_on 12) (cz_nm mX12_notes) (cz_nm mX12_notes) ∈ cz_T ∧ Cond.selects (cz_on 12) (cz_nm mX12_priceOf) (cz_nm mX12_priceOf) ∈ cz_T ∧ Cond.selects (cz_on 12) (cz_nm mX12_lost) (cz_nm mX12_lost) ∈ cz_T ∧ Cond.selects (cz_on 12) (cz_nm mX12_isCheese) (cz_nm mX12_isCheese) ∈ cz_T ∧ Cond.selects (cz_on 12) (cz_nm mX12_veinAt) (cz_nm mX12_veinAt) ∈ cz_T ∧ Cond.selects (cz_on 12) (cz_nm mX12_isEvent) (cz_nm mX12_isEvent) ∈ cz_T ∧ Cond.selects (cz_on 12) (cz_nm mX12_wakeNow) (cz_nm mX12_wakeNow) ∈ cz_T ∧ Cond.selects (cz_on 12) (cz_nm mX12_fewestNow) (cz_nm mX12_fewestNow) ∈ cz_T ∧ Cond.selects (cz_on 12) (cz_nm mX12_missesNone) (cz_nm mX12_missesNone) ∈ cz_T ∧ True := bw_okT (gs := [91, 0, 0, 0, 0, 0, 0, 0, 0, 0, 0, 0, 0, 0, 0, 0, 0, 0, 0, 0, 0, 0, 0, 0, 0, 0, 0, 0, 0, 0]) (L := (k2_sels lw_privs)) (ws := [Cond.selects (cz_on 12) (cz_nm mX12_good) (cz_nm mX12_good), Cond.selects (cz_on 12) (cz_nm mX12_isMinute) (cz_nm mX12_isMinute), Cond.selects (cz_on 12) (cz_nm mX12_laysLight) (cz_nm mX12_laysLight), Cond.selects (cz_on 12) (cz_nm mX12_events) (cz_nm mX12_events), Cond.selects (cz_on 12) (cz_nm mX12_fromOf) (cz_nm mX12_fromOf), Cond.selects (cz_on 12) (cz_nm mX12_toOf) (cz_nm mX12_toOf), Cond.selects (cz_on 12) (cz_nm mX12_marksLight) (cz_nm mX12_marksLight), Cond.selects (cz_on 12) (cz_nm mX12_kindOf) (cz_nm mX12_kindOf), Cond.selects (cz_on 12) (cz_nm mX12_hutOf) (cz_nm mX12_hutOf), Cond.selects (cz_on 12) (cz_nm mX12_isHut) (cz_nm mX12_isHut), Cond.selects (cz_on 12) (cz_nm mX12_seemsToIn) (cz_nm mX12_seemsToIn), Cond.selects (cz_on 12) (cz_nm mX12_changesIn) (cz_nm mX12_changesIn), Cond.selects (cz_on 12) (cz_nm mX12_dueIn) (cz_nm mX12_dueIn), Cond.selects (cz_on 12) (cz_nm mX12_isTurner) (cz_nm mX12_isTurner), Cond.selects (cz_on 12) (cz_nm mX12_isAwake) (cz_nm mX12_isAwake), Cond.selects (cz_on 12) (cz_nm mX12_noticesIn) (cz_nm mX12_noticesIn), Cond.selects (cz_on 12) (cz_nm mX12_isInAlmanac) (cz_nm mX12_isInAlmanac), Cond.selects (cz_on 12) (cz_nm mX12_tonight) (cz_nm mX12_tonight), Cond.selects (cz_on 12) (cz_nm mX12_everybody) (cz_nm mX12_everybody), Cond.selects (cz_on 12) (cz_nm mX12_goes) (cz_nm mX12_goes), Cond.selects (cz_on 12) (cz_nm mX12_turns) (cz_nm mX12_turns), Cond.selects (cz_on 12) (cz_nm mX12_notes) (cz_nm mX12_notes), Cond.selects (cz_on 12) (cz_nm mX12_priceOf) (cz_nm mX12_priceOf), Cond.selects (cz_on 12) (cz_nm mX12_lost) (cz_nm mX12_lost), Cond.selects (cz_on 12) (cz_nm mX12_isCheese) (cz_nm mX12_isCheese), Cond.selects (cz_on 12) (cz_nm mX12_veinAt) (cz_nm mX12_veinAt), Cond.selects (cz_on 12) (cz_nm mX12_isEvent) (cz_nm mX12_isEvent), Cond.selects (cz_on 12) (cz_nm mX12_wakeNow) (cz_nm mX12_wakeNow), Cond.selects (cz_on 12) (cz_nm mX12_fewestNow) (cz_nm mX12_fewestNow), Cond.selects (cz_on 12) (cz_nm mX12_missesNone) (cz_nm mX12_missesNone)]) rfl bw_g0 (by decide +kernel)
set_option maxRecDepth 20000 in
theorem bq4 : Cond.selects (cz_on 12) (cz_nm mX12_isSlice) (cz_nm mX12_isSlice) ∈ cz_T ∧ Cond.selects (cz_on 12) (cz_nm mX12_fitsNow) (cz_nm mX12_fitsNow) ∈ cz_T ∧ Cond.selects (cz_on 12) (cz_nm mX12_draws) (cz_nm mX12_draws) ∈ cz_T ∧ Cond.selects (cz_on 12) (cz_nm mX12_drawOf) (cz_nm mX12_drawOf) ∈ cz_T ∧ Cond.selects (cz_on 12) (cz_nm mX12_comes) (cz_nm mX12_comes) ∈ cz_T ∧ Cond.selects (cz_on 12) (cz_nm mX12_denied) (cz_nm mX12_denied) ∈ cz_T ∧ Cond.selects (cz_on 12) (cz_nm mX12_keeps) (cz_nm mX12_keeps) ∈ cz_T ∧ Cond.selects (cz_on 12) (cz_nm mX12_granted) (cz_nm mX12_granted) ∈ cz_T ∧ True := bw_okT (gs := [121, 0, 0, 0, 0, 0, 0, 0]) (L := (k2_sels lw_privs)) (ws := [Cond.selects (cz_on 12) (cz_nm mX12_isSlice) (cz_nm mX12_isSlice), Cond.selects (cz_on 12) (cz_nm mX12_fitsNow) (cz_nm mX12_fitsNow), Cond.selects (cz_on 12) (cz_nm mX12_draws) (cz_nm mX12_draws), Cond.selects (cz_on 12) (cz_nm mX12_drawOf) (cz_nm mX12_drawOf), Cond.selects (cz_on 12) (cz_nm mX12_comes) (cz_nm mX12_comes), Cond.selects (cz_on 12) (cz_nm mX12_denied) (cz_nm mX12_denied), Cond.selects (cz_on 12) (cz_nm mX12_keeps) (cz_nm mX12_keeps), Cond.selects (cz_on 12) (cz_nm mX12_granted) (cz_nm mX12_granted)]) rfl bw_g0 (by decide +kernel)
set_option maxRecDepth 20000 in
theorem bq5 : Cond.initialized (cz_on 13) ∈ cz_T ∧ Cond.initialized (cz_on 10) ∈ cz_T ∧ Cond.initialized (cz_on 0) ∈ cz_T ∧ Cond.initialized (cz_on 4) ∈ cz_T ∧ Cond.initialized (cz_on 2) ∈ cz_T ∧ Cond.initialized (cz_on 9) ∈ cz_T ∧ Cond.initialized (cz_on 1) ∈ cz_T ∧ Cond.initialized (cz_on 7) ∈ cz_T ∧ Cond.initialized (cz_on 3) ∈ cz_T ∧ Cond.initialized (cz_on 6) ∈ cz_T ∧ Cond.initialized (cz_on 8) ∈ cz_T ∧ Cond.initialized (cz_on 5) ∈ cz_T ∧ Cond.initialized (cz_on 12) ∈ cz_T ∧ Cond.initialized (cz_on 17) ∈ cz_T ∧ Cond.initialized (cz_on 18) ∈ cz_T ∧ Cond.initialized (cz_on 19) ∈ cz_T ∧ Cond.initialized (cz_on 11) ∈ cz_T ∧ Cond.initialized (cz_on 16) ∈ cz_T ∧ Cond.initialized (cz_on 15) ∈ cz_T ∧ Cond.initialized (cz_on 14) ∈ cz_T ∧ Cond.classLink (cz_on 13) 8 (cz_on 10) ∈ cz_T ∧ Cond.instantiable (cz_on 10) (cz_nf 10) ∈ cz_T ∧ Cond.methodLink (cz_on 13) 15 (cz_nm mX10_init) ∈ cz_T ∧ Cond.instanceMethod (cz_nm mX10_init) ∈ cz_T ∧ Cond.code (cz_nm mX10_init) (cz_cc mX10_init) (cz_nL mX10_init) (cz_rt mX10_init) ∈ cz_T ∧ Cond.methodLink (cz_on 10) 1 objectInit ∈ cz_T ∧ Cond.instanceMethod objectInit ∈ cz_T ∧ Cond.code objectInit ⟨#[0xb1]⟩ 1 none ∈ cz_T ∧ Cond.classLink (cz_on 10) 13 (cz_on 0) ∈ cz_T ∧ Cond.instantiable (cz_on 0) (cz_nf 0) ∈ cz_T ∧ True := bw_okT (gs := [0, 0, 0, 0, 0, 0, 0, 0, 0, 0, 0, 0, 0, 0, 0, 0, 1, 0, 0, 0, 4, 0, 0, 0, 0, 0, 0, 0, 0, 0]) (L := tables_1_1) (ws := [Cond.initialized (cz_on 13), Cond.initialized (cz_on 10), Cond.initialized (cz_on 0), Cond.initialized (cz_on 4), Cond.initialized (cz_on 2), Cond.initialized (cz_on 9), Cond.initialized (cz_on 1), Cond.initialized (cz_on 7), Cond.initialized (cz_on 3), Cond.initialized (cz_on 6), Cond.initialized (cz_on 8), Cond.initialized (cz_on 5), Cond.initialized (cz_on 12), Cond.initialized (cz_on 17), Cond.initialized (cz_on 18), Cond.initialized (cz_on 19), Cond.initialized (cz_on 11), Cond.initialized (cz_on 16), Cond.initialized (cz_on 15), Cond.initialized (cz_on 14), Cond.classLink (cz_on 13) 8 (cz_on 10), Cond.instantiable (cz_on 10) (cz_nf 10), Cond.methodLink (cz_on 13) 15 (cz_nm mX10_init), Cond.instanceMethod (cz_nm mX10_init), Cond.code (cz_nm mX10_init) (cz_cc mX10_init) (cz_nL mX10_init) (cz_rt mX10_init), Cond.methodLink (cz_on 10) 1 objectInit, Cond.instanceMethod objectInit, Cond.code objectInit ⟨#[0xb1]⟩ 1 none, Cond.classLink (cz_on 10) 13 (cz_on 0), Cond.instantiable (cz_on 0) (cz_nf 0)]) rfl (bw_g bw_s1) (by decide +kernel)
set_option maxRecDepth 20000 in
theorem bq6 : Cond.methodLink (cz_on 10) 15 (cz_nm mX0_init) ∈ cz_T ∧ Cond.instanceMethod (cz_nm mX0_init) ∈ cz_T ∧ Cond.code (cz_nm mX0_init) (cz_cc mX0_init) (cz_nL mX0_init) (cz_rt mX0_init) ∈ cz_T ∧ Cond.methodLink (cz_on 0) 3 objectInit ∈ cz_T ∧ Cond.classLink (cz_on 0) 15 (cz_on 2) ∈ cz_T ∧ Cond.classLink (cz_on 0) 24 (cz_on 4) ∈ cz_T ∧ Cond.instantiable (cz_on 4) (cz_nf 4) ∈ cz_T ∧ Cond.instanceMethod (cz_nm mX4_init) ∈ cz_T ∧ Cond.code (cz_nm mX4_init) (cz_cc mX4_init) (cz_nL mX4_init) (cz_rt mX4_init) ∈ cz_T ∧ Cond.methodLink (cz_on 4) 3 objectInit ∈ cz_T ∧ Cond.arrayClass (newarray.typeOf .byte) ∈ cz_T ∧ Cond.arrayClass (newarray.typeOf .int) ∈ cz_T ∧ Cond.classLink (cz_on 0) 31 (cz_on 9) ∈ cz_T ∧ Cond.classLink (cz_on 0) 37 (cz_on 1) ∈ cz_T ∧ Cond.instantiable (cz_on 2) (cz_nf 2) ∈ cz_T ∧ Cond.instanceMethod (cz_nm mX2_init) ∈ cz_T ∧ Cond.code (cz_nm mX2_init) (cz_cc mX2_init) (cz_nL mX2_init) (cz_rt mX2_init) ∈ cz_T ∧ Cond.methodLink (cz_on 2) 1 objectInit ∈ cz_T ∧ Cond.instantiable (cz_on 9) (cz_nf 9) ∈ cz_T ∧ Cond.instanceMethod (cz_nm mX9_init) ∈ cz_T ∧ Cond.code (cz_nm mX9_init) (cz_cc mX9_init) (cz_nL mX9_init) (cz_rt mX9_init) ∈ cz_T ∧ Cond.methodLink (cz_on 9) 1 objectInit ∈ cz_T ∧ Cond.instantiable (cz_on 1) (cz_nf 1) ∈ cz_T ∧ Cond.instanceMethod (cz_nm mX1_init) ∈ cz_T ∧ Cond.code (cz_nm mX1_init) (cz_cc mX1_init) (cz_nL mX1_init) (cz_rt mX1_init) ∈ cz_T ∧ Cond.methodLink (cz_on 1) 1 objectInit ∈ cz_T ∧ Cond.classLink (cz_on 10) 23 (cz_on 7) ∈ cz_T ∧ Cond.instantiable (cz_on 7) (cz_nf 7) ∈ cz_T ∧ Cond.methodLink (cz_on 10) 25 (cz_nm mX7_init) ∈ cz_T ∧ Cond.instanceMethod (cz_nm mX7_init) ∈ cz_T ∧ True := bw_okT (gs := [35, 0, 0, 0, 0, 1, 0, 1, 0, 0, 13, 0, 0, 1, 2, 1, 0, 0, 21, 1, 0, 0, 25, 1, 0, 0, 104, 0, 0, 0]) (L := tables_1_1) (ws := [Cond.methodLink (cz_on 10) 15 (cz_nm mX0_init), Cond.instanceMethod (cz_nm mX0_init), Cond.code (cz_nm mX0_init) (cz_cc mX0_init) (cz_nL mX0_init) (cz_rt mX0_init), Cond.methodLink (cz_on 0) 3 objectInit, Cond.classLink (cz_on 0) 15 (cz_on 2), Cond.classLink (cz_on 0) 24 (cz_on 4), Cond.instantiable (cz_on 4) (cz_nf 4), Cond.instanceMethod (cz_nm mX4_init), Cond.code (cz_nm mX4_init) (cz_cc mX4_init) (cz_nL mX4_init) (cz_rt mX4_init), Cond.methodLink (cz_on 4) 3 objectInit, Cond.arrayClass (newarray.typeOf .byte), Cond.arrayClass (newarray.typeOf .int), Cond.classLink (cz_on 0) 31 (cz_on 9), Cond.classLink (cz_on 0) 37 (cz_on 1), Cond.instantiable (cz_on 2) (cz_nf 2), Cond.instanceMethod (cz_nm mX2_init), Cond.code (cz_nm mX2_init) (cz_cc mX2_init) (cz_nL mX2_init) (cz_rt mX2_init), Cond.methodLink (cz_on 2) 1 objectInit, Cond.instantiable (cz_on 9) (cz_nf 9), Cond.instanceMethod (cz_nm mX9_init), Cond.code (cz_nm mX9_init) (cz_cc mX9_init) (cz_nL mX9_init) (cz_rt mX9_init), Cond.methodLink (cz_on 9) 1 objectInit, Cond.instantiable (cz_on 1) (cz_nf 1), Cond.instanceMethod (cz_nm mX1_init), Cond.code (cz_nm mX1_init) (cz_cc mX1_init) (cz_nL mX1_init) (cz_rt mX1_init), Cond.methodLink (cz_on 1) 1 objectInit, Cond.classLink (cz_on 10) 23 (cz_on 7), Cond.instantiable (cz_on 7) (cz_nf 7), Cond.methodLink (cz_on 10) 25 (cz_nm mX7_init), Cond.instanceMethod (cz_nm mX7_init)]) rfl (bw_g bw_s1) (by decide +kernel)
set_option maxRecDepth 20000 in
theorem bq7 : Cond.code (cz_nm mX7_init) (cz_cc mX7_init) (cz_nL mX7_init) (cz_rt mX7_init) ∈ cz_T ∧ Cond.methodLink (cz_on 7) 3 objectInit ∈ cz_T ∧ True := bw_okT (gs := [236, 0]) (L := tables_1_1) (ws := [Cond.code (cz_nm mX7_init) (cz_cc mX7_init) (cz_nL mX7_init) (cz_rt mX7_init), Cond.methodLink (cz_on 7) 3 objectInit]) rfl (bw_g bw_s1) (by decide +kernel)
set_option maxRecDepth 20000 in
theorem bq8 : Cond.arrayClass (newarray.typeOf .long) ∈ cz_T ∧ Cond.classLink (cz_on 10) 32 (cz_on 3) ∈ cz_T ∧ Cond.instantiable (cz_on 3) (cz_nf 3) ∈ cz_T ∧ Cond.instanceMethod (cz_nm mX3_init) ∈ cz_T ∧ Cond.code (cz_nm mX3_init) (cz_cc mX3_init) (cz_nL mX3_init) (cz_rt mX3_init) ∈ cz_T ∧ Cond.methodLink (cz_on 3) 3 objectInit ∈ cz_T ∧ Cond.classLink (cz_on 10) 39 (cz_on 6) ∈ cz_T ∧ Cond.instantiable (cz_on 6) (cz_nf 6) ∈ cz_T ∧ Cond.methodLink (cz_on 10) 41 (cz_nm mX6_init) ∈ cz_T ∧ Cond.instanceMethod (cz_nm mX6_init) ∈ cz_T ∧ Cond.code (cz_nm mX6_init) (cz_cc mX6_init) (cz_nL mX6_init) (cz_rt mX6_init) ∈ cz_T ∧ Cond.methodLink (cz_on 6) 3 objectInit ∈ cz_T ∧ Cond.classLink (cz_on 6) 9 (cz_on 3) ∈ cz_T ∧ Cond.classLink (cz_on 10) 46 (cz_on 8) ∈ cz_T ∧ Cond.instantiable (cz_on 8) (cz_nf 8) ∈ cz_T ∧ Cond.instanceMethod (cz_nm mX8_init) ∈ cz_T ∧ Cond.code (cz_nm mX8_init) (cz_cc mX8_init) (cz_nL mX8_init) (cz_rt mX8_init) ∈ cz_T ∧ Cond.methodLink (cz_on 8) 3 objectInit ∈ cz_T ∧ Cond.arrayClass (newarray.typeOf .boolean) ∈ cz_T ∧ Cond.classLink (cz_on 10) 53 (cz_on 5) ∈ cz_T ∧ Cond.instantiable (cz_on 5) (cz_nf 5) ∈ cz_T ∧ Cond.methodLink (cz_on 10) 55 (cz_nm mX5_init) ∈ cz_T ∧ Cond.instanceMethod (cz_nm mX5_init) ∈ cz_T ∧ Cond.code (cz_nm mX5_init) (cz_cc mX5_init) (cz_nL mX5_init) (cz_rt mX5_init) ∈ cz_T ∧ Cond.methodLink (cz_on 5) 3 objectInit ∈ cz_T ∧ True := bw_okT (gs := [52, 0, 0, 1, 0, 0, 24, 0, 0, 0, 0, 0, 0, 17, 0, 1, 0, 0, 47, 0, 0, 0, 0, 0, 0]) (L := tables_1_2) (ws := [Cond.arrayClass (newarray.typeOf .long), Cond.classLink (cz_on 10) 32 (cz_on 3), Cond.instantiable (cz_on 3) (cz_nf 3), Cond.instanceMethod (cz_nm mX3_init), Cond.code (cz_nm mX3_init) (cz_cc mX3_init) (cz_nL mX3_init) (cz_rt mX3_init), Cond.methodLink (cz_on 3) 3 objectInit, Cond.classLink (cz_on 10) 39 (cz_on 6), Cond.instantiable (cz_on 6) (cz_nf 6), Cond.methodLink (cz_on 10) 41 (cz_nm mX6_init), Cond.instanceMethod (cz_nm mX6_init), Cond.code (cz_nm mX6_init) (cz_cc mX6_init) (cz_nL mX6_init) (cz_rt mX6_init), Cond.methodLink (cz_on 6) 3 objectInit, Cond.classLink (cz_on 6) 9 (cz_on 3), Cond.classLink (cz_on 10) 46 (cz_on 8), Cond.instantiable (cz_on 8) (cz_nf 8), Cond.instanceMethod (cz_nm mX8_init), Cond.code (cz_nm mX8_init) (cz_cc mX8_init) (cz_nL mX8_init) (cz_rt mX8_init), Cond.methodLink (cz_on 8) 3 objectInit, Cond.arrayClass (newarray.typeOf .boolean), Cond.classLink (cz_on 10) 53 (cz_on 5), Cond.instantiable (cz_on 5) (cz_nf 5), Cond.methodLink (cz_on 10) 55 (cz_nm mX5_init), Cond.instanceMethod (cz_nm mX5_init), Cond.code (cz_nm mX5_init) (cz_cc mX5_init) (cz_nL mX5_init) (cz_rt mX5_init), Cond.methodLink (cz_on 5) 3 objectInit]) rfl (bw_g bw_s2) (by decide +kernel)
set_option maxRecDepth 20000 in
theorem bq9 : Cond.methodLink (cz_on 13) 19 (cz_nm mX10_feed) ∈ cz_T ∧ Cond.instanceMethod (cz_nm mX10_feed) ∈ cz_T ∧ Cond.selects (cz_on 10) (cz_nm mX10_feed) (cz_nm mX10_feed) ∈ cz_T ∧ Cond.code (cz_nm mX10_feed) (cz_cc mX10_feed) (cz_nL mX10_feed) (cz_rt mX10_feed) ∈ cz_T ∧ Cond.methodLink (cz_on 10) 75 (cz_nm mX10_putBytes) ∈ cz_T ∧ Cond.instanceMethod (cz_nm mX10_putBytes) ∈ cz_T ∧ Cond.code (cz_nm mX10_putBytes) (cz_cc mX10_putBytes) (cz_nL mX10_putBytes) (cz_rt mX10_putBytes) ∈ cz_T ∧ Cond.methodLink (cz_on 13) 24 (cz_nm mX10_alp) ∈ cz_T ∧ Cond.instanceMethod (cz_nm mX10_alp) ∈ cz_T ∧ Cond.selects (cz_on 10) (cz_nm mX10_alp) (cz_nm mX10_alp) ∈ cz_T ∧ Cond.code (cz_nm mX10_alp) (cz_cc mX10_alp) (cz_nL mX10_alp) (cz_rt mX10_alp) ∈ cz_T ∧ Cond.methodLink (cz_on 10) 79 (cz_nm mX10_refused) ∈ cz_T ∧ Cond.instanceMethod (cz_nm mX10_refused) ∈ cz_T ∧ Cond.code (cz_nm mX10_refused) (cz_cc mX10_refused) (cz_nL mX10_refused) (cz_rt mX10_refused) ∈ cz_T ∧ Cond.methodLink (cz_on 10) 83 (cz_nm mX7_readAll) ∈ cz_T ∧ Cond.instanceMethod (cz_nm mX7_readAll) ∈ cz_T ∧ Cond.selects (cz_on 7) (cz_nm mX7_readAll) (cz_nm mX7_readAll) ∈ cz_T ∧ Cond.code (cz_nm mX7_readAll) (cz_cc mX7_readAll) (cz_nL mX7_readAll) (cz_rt mX7_readAll) ∈ cz_T ∧ Cond.methodLink (cz_on 7) 26 (cz_nm mX0_clear) ∈ cz_T ∧ Cond.instanceMethod (cz_nm mX0_clear) ∈ cz_T ∧ Cond.selects (cz_on 0) (cz_nm mX0_clear) (cz_nm mX0_clear) ∈ cz_T ∧ Cond.code (cz_nm mX0_clear) (cz_cc mX0_clear) (cz_nL mX0_clear) (cz_rt mX0_clear) ∈ cz_T ∧ Cond.methodLink (cz_on 7) 51 (cz_nm mX7_step) ∈ cz_T ∧ Cond.instanceMethod (cz_nm mX7_step) ∈ cz_T ∧ Cond.code (cz_nm mX7_step) (cz_cc mX7_step) (cz_nL mX7_step) (cz_rt mX7_step) ∈ cz_T ∧ Cond.methodLink (cz_on 7) 71 (cz_nm mX7_stepWord) ∈ cz_T ∧ Cond.instanceMethod (cz_nm mX7_stepWord) ∈ cz_T ∧ Cond.code (cz_nm mX7_stepWord) (cz_cc mX7_stepWord) (cz_nL mX7_stepWord) (cz_rt mX7_stepWord) ∈ cz_T ∧ Cond.constantLong (cz_on 7) 82 (32) ∈ cz_T ∧ Cond.constantLong (cz_on 7) 84 (97) ∈ cz_T ∧ True := bw_okT (gs := [26, 0, 0, 0, 0, 1, 0, 0, 0, 0, 0, 0, 1, 0, 0, 0, 0, 0, 0, 0, 0, 0, 0, 1, 0, 0, 1, 0, 0, 0]) (L := tables_1_3) (ws := [Cond.methodLink (cz_on 13) 19 (cz_nm mX10_feed), Cond.instanceMethod (cz_nm mX10_feed), Cond.selects (cz_on 10) (cz_nm mX10_feed) (cz_nm mX10_feed), Cond.code (cz_nm mX10_feed) (cz_cc mX10_feed) (cz_nL mX10_feed) (cz_rt mX10_feed), Cond.methodLink (cz_on 10) 75 (cz_nm mX10_putBytes), Cond.instanceMethod (cz_nm mX10_putBytes), Cond.code (cz_nm mX10_putBytes) (cz_cc mX10_putBytes) (cz_nL mX10_putBytes) (cz_rt mX10_putBytes), Cond.methodLink (cz_on 13) 24 (cz_nm mX10_alp), Cond.instanceMethod (cz_nm mX10_alp), Cond.selects (cz_on 10) (cz_nm mX10_alp) (cz_nm mX10_alp), Cond.code (cz_nm mX10_alp) (cz_cc mX10_alp) (cz_nL mX10_alp) (cz_rt mX10_alp), Cond.methodLink (cz_on 10) 79 (cz_nm mX10_refused), Cond.instanceMethod (cz_nm mX10_refused), Cond.code (cz_nm mX10_refused) (cz_cc mX10_refused) (cz_nL mX10_refused) (cz_rt mX10_refused), Cond.methodLink (cz_on 10) 83 (cz_nm mX7_readAll), Cond.instanceMethod (cz_nm mX7_readAll), Cond.selects (cz_on 7) (cz_nm mX7_readAll) (cz_nm mX7_readAll), Cond.code (cz_nm mX7_readAll) (cz_cc mX7_readAll) (cz_nL mX7_readAll) (cz_rt mX7_readAll), Cond.methodLink (cz_on 7) 26 (cz_nm mX0_clear), Cond.instanceMethod (cz_nm mX0_clear), Cond.selects (cz_on 0) (cz_nm mX0_clear) (cz_nm mX0_clear), Cond.code (cz_nm mX0_clear) (cz_cc mX0_clear) (cz_nL mX0_clear) (cz_rt mX0_clear), Cond.methodLink (cz_on 7) 51 (cz_nm mX7_step), Cond.instanceMethod (cz_nm mX7_step), Cond.code (cz_nm mX7_step) (cz_cc mX7_step) (cz_nL mX7_step) (cz_rt mX7_step), Cond.methodLink (cz_on 7) 71 (cz_nm mX7_stepWord), Cond.instanceMethod (cz_nm mX7_stepWord), Cond.code (cz_nm mX7_stepWord) (cz_cc mX7_stepWord) (cz_nL mX7_stepWord) (cz_rt mX7_stepWord), Cond.constantLong (cz_on 7) 82 (32), Cond.constantLong (cz_on 7) 84 (97)]) rfl (bw_g bw_s3) (by decide +kernel)
set_option maxRecDepth 20000 in
theorem bq10 : Cond.methodLink (cz_on 7) 75 (cz_nm mX7_stepWhole) ∈ cz_T ∧ Cond.instanceMethod (cz_nm mX7_stepWhole) ∈ cz_T ∧ Cond.code (cz_nm mX7_stepWhole) (cz_cc mX7_stepWhole) (cz_nL mX7_stepWhole) (cz_rt mX7_stepWhole) ∈ cz_T ∧ Cond.methodLink (cz_on 7) 54 (cz_nm mX7_readLine) ∈ cz_T ∧ Cond.instanceMethod (cz_nm mX7_readLine) ∈ cz_T ∧ Cond.code (cz_nm mX7_readLine) (cz_cc mX7_readLine) (cz_nL mX7_readLine) (cz_rt mX7_readLine) ∈ cz_T ∧ Cond.methodLink (cz_on 7) 168 (cz_nm mX7_sortOfWord) ∈ cz_T ∧ Cond.instanceMethod (cz_nm mX7_sortOfWord) ∈ cz_T ∧ Cond.code (cz_nm mX7_sortOfWord) (cz_cc mX7_sortOfWord) (cz_nL mX7_sortOfWord) (cz_rt mX7_sortOfWord) ∈ cz_T ∧ Cond.methodLink (cz_on 7) 152 (cz_nm mX7_lineWord) ∈ cz_T ∧ Cond.static (cz_nm mX7_lineWord) ∈ cz_T ∧ Cond.code (cz_nm mX7_lineWord) (cz_cc mX7_lineWord) (cz_nL mX7_lineWord) (cz_rt mX7_lineWord) ∈ cz_T ∧ Cond.methodLink (cz_on 7) 97 (cz_nm mX7_packed) ∈ cz_T ∧ Cond.static (cz_nm mX7_packed) ∈ cz_T ∧ Cond.code (cz_nm mX7_packed) (cz_cc mX7_packed) (cz_nL mX7_packed) (cz_rt mX7_packed) ∈ cz_T ∧ Cond.methodLink (cz_on 7) 89 (cz_nm mJ0_length_8abf5) ∈ cz_T ∧ Cond.instanceMethod (cz_nm mJ0_length_8abf5) ∈ cz_T ∧ Cond.selects (cz_on 17) (cz_nm mJ0_length_8abf5) (cz_nm mJ0_length_8abf5) ∈ cz_T ∧ Cond.code (cz_nm mJ0_length_8abf5) (cz_cc mJ0_length_8abf5) (cz_nL mJ0_length_8abf5) (cz_rt mJ0_length_8abf5) ∈ cz_T ∧ Cond.methodLink (cz_on 17) 335 (cz_nm mJ0_coder_7d493) ∈ cz_T ∧ Cond.instanceMethod (cz_nm mJ0_coder_7d493) ∈ cz_T ∧ Cond.selects (cz_on 17) (cz_nm mJ0_coder_7d493) (cz_nm mJ0_coder_7d493) ∈ cz_T ∧ Cond.code (cz_nm mJ0_coder_7d493) (cz_cc mJ0_coder_7d493) (cz_nL mJ0_coder_7d493) (cz_rt mJ0_coder_7d493) ∈ cz_T ∧ Cond.methodLink (cz_on 7) 93 (cz_nm mJ0_charAt_5068e) ∈ cz_T ∧ Cond.instanceMethod (cz_nm mJ0_charAt_5068e) ∈ cz_T ∧ Cond.selects (cz_on 17) (cz_nm mJ0_charAt_5068e) (cz_nm mJ0_charAt_5068e) ∈ cz_T ∧ Cond.code (cz_nm mJ0_charAt_5068e) (cz_cc mJ0_charAt_5068e) (cz_nL mJ0_charAt_5068e) (cz_rt mJ0_charAt_5068e) ∈ cz_T ∧ Cond.methodLink (cz_on 17) 492 (cz_nm mJ0_isLatin1_aae02) ∈ cz_T ∧ Cond.instanceMethod (cz_nm mJ0_isLatin1_aae02) ∈ cz_T ∧ Cond.selects (cz_on 17) (cz_nm mJ0_isLatin1_aae02) (cz_nm mJ0_isLatin1_aae02) ∈ cz_T ∧ True := bw_okT (gs := [60, 1, 0, 0, 1, 0, 0, 1, 0, 0, 0, 0, 11, 0, 0, 0, 0, 0, 0, 0, 0, 0, 0, 2, 0, 0, 0, 0, 0, 0]) (L := tables_1_3) (ws := [Cond.methodLink (cz_on 7) 75 (cz_nm mX7_stepWhole), Cond.instanceMethod (cz_nm mX7_stepWhole), Cond.code (cz_nm mX7_stepWhole) (cz_cc mX7_stepWhole) (cz_nL mX7_stepWhole) (cz_rt mX7_stepWhole), Cond.methodLink (cz_on 7) 54 (cz_nm mX7_readLine), Cond.instanceMethod (cz_nm mX7_readLine), Cond.code (cz_nm mX7_readLine) (cz_cc mX7_readLine) (cz_nL mX7_readLine) (cz_rt mX7_readLine), Cond.methodLink (cz_on 7) 168 (cz_nm mX7_sortOfWord), Cond.instanceMethod (cz_nm mX7_sortOfWord), Cond.code (cz_nm mX7_sortOfWord) (cz_cc mX7_sortOfWord) (cz_nL mX7_sortOfWord) (cz_rt mX7_sortOfWord), Cond.methodLink (cz_on 7) 152 (cz_nm mX7_lineWord), Cond.static (cz_nm mX7_lineWord), Cond.code (cz_nm mX7_lineWord) (cz_cc mX7_lineWord) (cz_nL mX7_lineWord) (cz_rt mX7_lineWord), Cond.methodLink (cz_on 7) 97 (cz_nm mX7_packed), Cond.static (cz_nm mX7_packed), Cond.code (cz_nm mX7_packed) (cz_cc mX7_packed) (cz_nL mX7_packed) (cz_rt mX7_packed), Cond.methodLink (cz_on 7) 89 (cz_nm mJ0_length_8abf5), Cond.instanceMethod (cz_nm mJ0_length_8abf5), Cond.selects (cz_on 17) (cz_nm mJ0_length_8abf5) (cz_nm mJ0_length_8abf5), Cond.code (cz_nm mJ0_length_8abf5) (cz_cc mJ0_length_8abf5) (cz_nL mJ0_length_8abf5) (cz_rt mJ0_length_8abf5), Cond.methodLink (cz_on 17) 335 (cz_nm mJ0_coder_7d493), Cond.instanceMethod (cz_nm mJ0_coder_7d493), Cond.selects (cz_on 17) (cz_nm mJ0_coder_7d493) (cz_nm mJ0_coder_7d493), Cond.code (cz_nm mJ0_coder_7d493) (cz_cc mJ0_coder_7d493) (cz_nL mJ0_coder_7d493) (cz_rt mJ0_coder_7d493), Cond.methodLink (cz_on 7) 93 (cz_nm mJ0_charAt_5068e), Cond.instanceMethod (cz_nm mJ0_charAt_5068e), Cond.selects (cz_on 17) (cz_nm mJ0_charAt_5068e) (cz_nm mJ0_charAt_5068e), Cond.code (cz_nm mJ0_charAt_5068e) (cz_cc mJ0_charAt_5068e) (cz_nL mJ0_charAt_5068e) (cz_rt mJ0_charAt_5068e), Cond.methodLink (cz_on 17) 492 (cz_nm mJ0_isLatin1_aae02), Cond.instanceMethod (cz_nm mJ0_isLatin1_aae02), Cond.selects (cz_on 17) (cz_nm mJ0_isLatin1_aae02) (cz_nm mJ0_isLatin1_aae02)]) rfl (bw_g bw_s3) (by decide +kernel)
set_option maxRecDepth 20000 in
theorem bq11 : Cond.code (cz_nm mJ0_isLatin1_aae02) (cz_cc mJ0_isLatin1_aae02) (cz_nL mJ0_isLatin1_aae02) (cz_rt mJ0_isLatin1_aae02) ∈ cz_T ∧ Cond.methodLink (cz_on 17) 495 (cz_nm mJ1_charAt_3b067) ∈ cz_T ∧ Cond.static (cz_nm mJ1_charAt_3b067) ∈ cz_T ∧ Cond.code (cz_nm mJ1_charAt_3b067) (cz_cc mJ1_charAt_3b067) (cz_nL mJ1_charAt_3b067) (cz_rt mJ1_charAt_3b067) ∈ cz_T ∧ Cond.methodLink (cz_on 18) 9 (cz_nm mJ0_checkIndex_df160) ∈ cz_T ∧ Cond.static (cz_nm mJ0_checkIndex_df160) ∈ cz_T ∧ Cond.code (cz_nm mJ0_checkIndex_df160) (cz_cc mJ0_checkIndex_df160) (cz_nL mJ0_checkIndex_df160) (cz_rt mJ0_checkIndex_df160) ∈ cz_T ∧ Cond.methodLink (cz_on 17) 1059 (cz_nm mJ3_checkIndex_8e157) ∈ cz_T ∧ Cond.static (cz_nm mJ3_checkIndex_8e157) ∈ cz_T ∧ Cond.code (cz_nm mJ3_checkIndex_8e157) (cz_cc mJ3_checkIndex_8e157) (cz_nL mJ3_checkIndex_8e157) (cz_rt mJ3_checkIndex_8e157) ∈ cz_T ∧ Cond.methodLink (cz_on 7) 64 (cz_nm mX7_fail) ∈ cz_T ∧ Cond.instanceMethod (cz_nm mX7_fail) ∈ cz_T ∧ Cond.code (cz_nm mX7_fail) (cz_cc mX7_fail) (cz_nL mX7_fail) (cz_rt mX7_fail) ∈ cz_T ∧ Cond.methodLink (cz_on 7) 171 (cz_nm mX7_isToldAgain) ∈ cz_T ∧ Cond.instanceMethod (cz_nm mX7_isToldAgain) ∈ cz_T ∧ Cond.code (cz_nm mX7_isToldAgain) (cz_cc mX7_isToldAgain) (cz_nL mX7_isToldAgain) (cz_rt mX7_isToldAgain) ∈ cz_T ∧ Cond.methodLink (cz_on 7) 174 (cz_nm mX7_isFull) ∈ cz_T ∧ Cond.instanceMethod (cz_nm mX7_isFull) ∈ cz_T ∧ Cond.code (cz_nm mX7_isFull) (cz_cc mX7_isFull) (cz_nL mX7_isFull) (cz_rt mX7_isFull) ∈ cz_T ∧ Cond.methodLink (cz_on 7) 177 (cz_nm mX7_readAlp) ∈ cz_T ∧ Cond.instanceMethod (cz_nm mX7_readAlp) ∈ cz_T ∧ Cond.code (cz_nm mX7_readAlp) (cz_cc mX7_readAlp) (cz_nL mX7_readAlp) (cz_rt mX7_readAlp) ∈ cz_T ∧ Cond.methodLink (cz_on 7) 126 (cz_nm mX7_takeWord) ∈ cz_T ∧ Cond.instanceMethod (cz_nm mX7_takeWord) ∈ cz_T ∧ Cond.code (cz_nm mX7_takeWord) (cz_cc mX7_takeWord) (cz_nL mX7_takeWord) (cz_rt mX7_takeWord) ∈ cz_T ∧ Cond.methodLink (cz_on 7) 101 (cz_nm mX7_seesWord) ∈ cz_T ∧ Cond.instanceMethod (cz_nm mX7_seesWord) ∈ cz_T ∧ Cond.code (cz_nm mX7_seesWord) (cz_cc mX7_seesWord) (cz_nL mX7_seesWord) (cz_rt mX7_seesWord) ∈ cz_T ∧ Cond.methodLink (cz_on 7) 115 (cz_nm mX7_takeWhole) ∈ cz_T ∧ Cond.instanceMethod (cz_nm mX7_takeWhole) ∈ cz_T ∧ True := bw_okT (gs := [106, 0, 0, 0, 0, 0, 0, 2, 0, 0, 19, 1, 0, 0, 1, 0, 0, 1, 0, 0, 1, 0, 1, 1, 0, 0, 1, 0, 0, 1]) (L := tables_1_3) (ws := [Cond.code (cz_nm mJ0_isLatin1_aae02) (cz_cc mJ0_isLatin1_aae02) (cz_nL mJ0_isLatin1_aae02) (cz_rt mJ0_isLatin1_aae02), Cond.methodLink (cz_on 17) 495 (cz_nm mJ1_charAt_3b067), Cond.static (cz_nm mJ1_charAt_3b067), Cond.code (cz_nm mJ1_charAt_3b067) (cz_cc mJ1_charAt_3b067) (cz_nL mJ1_charAt_3b067) (cz_rt mJ1_charAt_3b067), Cond.methodLink (cz_on 18) 9 (cz_nm mJ0_checkIndex_df160), Cond.static (cz_nm mJ0_checkIndex_df160), Cond.code (cz_nm mJ0_checkIndex_df160) (cz_cc mJ0_checkIndex_df160) (cz_nL mJ0_checkIndex_df160) (cz_rt mJ0_checkIndex_df160), Cond.methodLink (cz_on 17) 1059 (cz_nm mJ3_checkIndex_8e157), Cond.static (cz_nm mJ3_checkIndex_8e157), Cond.code (cz_nm mJ3_checkIndex_8e157) (cz_cc mJ3_checkIndex_8e157) (cz_nL mJ3_checkIndex_8e157) (cz_rt mJ3_checkIndex_8e157), Cond.methodLink (cz_on 7) 64 (cz_nm mX7_fail), Cond.instanceMethod (cz_nm mX7_fail), Cond.code (cz_nm mX7_fail) (cz_cc mX7_fail) (cz_nL mX7_fail) (cz_rt mX7_fail), Cond.methodLink (cz_on 7) 171 (cz_nm mX7_isToldAgain), Cond.instanceMethod (cz_nm mX7_isToldAgain), Cond.code (cz_nm mX7_isToldAgain) (cz_cc mX7_isToldAgain) (cz_nL mX7_isToldAgain) (cz_rt mX7_isToldAgain), Cond.methodLink (cz_on 7) 174 (cz_nm mX7_isFull), Cond.instanceMethod (cz_nm mX7_isFull), Cond.code (cz_nm mX7_isFull) (cz_cc mX7_isFull) (cz_nL mX7_isFull) (cz_rt mX7_isFull), Cond.methodLink (cz_on 7) 177 (cz_nm mX7_readAlp), Cond.instanceMethod (cz_nm mX7_readAlp), Cond.code (cz_nm mX7_readAlp) (cz_cc mX7_readAlp) (cz_nL mX7_readAlp) (cz_rt mX7_readAlp), Cond.methodLink (cz_on 7) 126 (cz_nm mX7_takeWord), Cond.instanceMethod (cz_nm mX7_takeWord), Cond.code (cz_nm mX7_takeWord) (cz_cc mX7_takeWord) (cz_nL mX7_takeWord) (cz_rt mX7_takeWord), Cond.methodLink (cz_on 7) 101 (cz_nm mX7_seesWord), Cond.instanceMethod (cz_nm mX7_seesWord), Cond.code (cz_nm mX7_seesWord) (cz_cc mX7_seesWord) (cz_nL mX7_seesWord) (cz_rt mX7_seesWord), Cond.methodLink (cz_on 7) 115 (cz_nm mX7_takeWhole), Cond.instanceMethod (cz_nm mX7_takeWhole)]) rfl (bw_g bw_s3) (by decide +kernel)
set_option maxRecDepth 20000 in
theorem bq12 : Cond.code (cz_nm mX7_takeWhole) (cz_cc mX7_takeWhole) (cz_nL mX7_takeWhole) (cz_rt mX7_takeWhole) ∈ cz_T ∧ Cond.methodLink (cz_on 7) 105 (cz_nm mX7_seesWhole) ∈ cz_T ∧ Cond.instanceMethod (cz_nm mX7_seesWhole) ∈ cz_T ∧ Cond.code (cz_nm mX7_seesWhole) (cz_cc mX7_seesWhole) (cz_nL mX7_seesWhole) (cz_rt mX7_seesWhole) ∈ cz_T ∧ Cond.methodLink (cz_on 7) 210 (cz_nm mX7_takeComma) ∈ cz_T ∧ Cond.instanceMethod (cz_nm mX7_takeComma) ∈ cz_T ∧ Cond.code (cz_nm mX7_takeComma) (cz_cc mX7_takeComma) (cz_nL mX7_takeComma) (cz_rt mX7_takeComma) ∈ cz_T ∧ Cond.methodLink (cz_on 7) 180 (cz_nm mX7_readCheese) ∈ cz_T ∧ Cond.instanceMethod (cz_nm mX7_readCheese) ∈ cz_T ∧ Cond.code (cz_nm mX7_readCheese) (cz_cc mX7_readCheese) (cz_nL mX7_readCheese) (cz_rt mX7_readCheese) ∈ cz_T ∧ Cond.methodLink (cz_on 7) 231 (cz_nm mX7_seesNewName) ∈ cz_T ∧ Cond.instanceMethod (cz_nm mX7_seesNewName) ∈ cz_T ∧ Cond.code (cz_nm mX7_seesNewName) (cz_cc mX7_seesNewName) (cz_nL mX7_seesNewName) (cz_rt mX7_seesNewName) ∈ cz_T ∧ Cond.methodLink (cz_on 7) 279 (cz_nm mX7_seesName) ∈ cz_T ∧ Cond.instanceMethod (cz_nm mX7_seesName) ∈ cz_T ∧ Cond.code (cz_nm mX7_seesName) (cz_cc mX7_seesName) (cz_nL mX7_seesName) (cz_rt mX7_seesName) ∈ cz_T ∧ Cond.methodLink (cz_on 7) 313 (cz_nm mX7_isToldCheese) ∈ cz_T ∧ Cond.instanceMethod (cz_nm mX7_isToldCheese) ∈ cz_T ∧ Cond.code (cz_nm mX7_isToldCheese) (cz_cc mX7_isToldCheese) (cz_nL mX7_isToldCheese) (cz_rt mX7_isToldCheese) ∈ cz_T ∧ Cond.methodLink (cz_on 7) 282 (cz_nm mX7_namedTurner) ∈ cz_T ∧ Cond.instanceMethod (cz_nm mX7_namedTurner) ∈ cz_T ∧ Cond.code (cz_nm mX7_namedTurner) (cz_cc mX7_namedTurner) (cz_nL mX7_namedTurner) (cz_rt mX7_namedTurner) ∈ cz_T ∧ Cond.methodLink (cz_on 7) 223 (cz_nm mX7_takeHut) ∈ cz_T ∧ Cond.instanceMethod (cz_nm mX7_takeHut) ∈ cz_T ∧ Cond.code (cz_nm mX7_takeHut) (cz_cc mX7_takeHut) (cz_nL mX7_takeHut) (cz_rt mX7_takeHut) ∈ cz_T ∧ Cond.methodLink (cz_on 7) 186 (cz_nm mX7_readMinutes) ∈ cz_T ∧ Cond.instanceMethod (cz_nm mX7_readMinutes) ∈ cz_T ∧ Cond.code (cz_nm mX7_readMinutes) (cz_cc mX7_readMinutes) (cz_nL mX7_readMinutes) (cz_rt mX7_readMinutes) ∈ cz_T ∧ Cond.methodLink (cz_on 7) 190 (cz_nm mX7_readTurner) ∈ cz_T ∧ Cond.instanceMethod (cz_nm mX7_readTurner) ∈ cz_T ∧ True := bw_okT (gs := [165, 0, 1, 0, 2, 1, 0, 0, 1, 0, 0, 1, 0, 0, 1, 0, 1, 1, 0, 0, 1, 0, 1, 1, 0, 0, 1, 0, 0, 1]) (L := tables_1_3) (ws := [Cond.code (cz_nm mX7_takeWhole) (cz_cc mX7_takeWhole) (cz_nL mX7_takeWhole) (cz_rt mX7_takeWhole), Cond.methodLink (cz_on 7) 105 (cz_nm mX7_seesWhole), Cond.instanceMethod (cz_nm mX7_seesWhole), Cond.code (cz_nm mX7_seesWhole) (cz_cc mX7_seesWhole) (cz_nL mX7_seesWhole) (cz_rt mX7_seesWhole), Cond.methodLink (cz_on 7) 210 (cz_nm mX7_takeComma), Cond.instanceMethod (cz_nm mX7_takeComma), Cond.code (cz_nm mX7_takeComma) (cz_cc mX7_takeComma) (cz_nL mX7_takeComma) (cz_rt mX7_takeComma), Cond.methodLink (cz_on 7) 180 (cz_nm mX7_readCheese), Cond.instanceMethod (cz_nm mX7_readCheese), Cond.code (cz_nm mX7_readCheese) (cz_cc mX7_readCheese) (cz_nL mX7_readCheese) (cz_rt mX7_readCheese), Cond.methodLink (cz_on 7) 231 (cz_nm mX7_seesNewName), Cond.instanceMethod (cz_nm mX7_seesNewName), Cond.code (cz_nm mX7_seesNewName) (cz_cc mX7_seesNewName) (cz_nL mX7_seesNewName) (cz_rt mX7_seesNewName), Cond.methodLink (cz_on 7) 279 (cz_nm mX7_seesName), Cond.instanceMethod (cz_nm mX7_seesName), Cond.code (cz_nm mX7_seesName) (cz_cc mX7_seesName) (cz_nL mX7_seesName) (cz_rt mX7_seesName), Cond.methodLink (cz_on 7) 313 (cz_nm mX7_isToldCheese), Cond.instanceMethod (cz_nm mX7_isToldCheese), Cond.code (cz_nm mX7_isToldCheese) (cz_cc mX7_isToldCheese) (cz_nL mX7_isToldCheese) (cz_rt mX7_isToldCheese), Cond.methodLink (cz_on 7) 282 (cz_nm mX7_namedTurner), Cond.instanceMethod (cz_nm mX7_namedTurner), Cond.code (cz_nm mX7_namedTurner) (cz_cc mX7_namedTurner) (cz_nL mX7_namedTurner) (cz_rt mX7_namedTurner), Cond.methodLink (cz_on 7) 223 (cz_nm mX7_takeHut), Cond.instanceMethod (cz_nm mX7_takeHut), Cond.code (cz_nm mX7_takeHut) (cz_cc mX7_takeHut) (cz_nL mX7_takeHut) (cz_rt mX7_takeHut), Cond.methodLink (cz_on 7) 186 (cz_nm mX7_readMinutes), Cond.instanceMethod (cz_nm mX7_readMinutes), Cond.code (cz_nm mX7_readMinutes) (cz_cc mX7_readMinutes) (cz_nL mX7_readMinutes) (cz_rt mX7_readMinutes), Cond.methodLink (cz_on 7) 190 (cz_nm mX7_readTurner), Cond.instanceMethod (cz_nm mX7_readTurner)]) rfl (bw_g bw_s3) (by decide +kernel)
set_option maxRecDepth 20000 in
theorem bq13 : Cond.code (cz_nm mX7_readTurner) (cz_cc mX7_readTurner) (cz_nL mX7_readTurner) (cz_rt mX7_readTurner) ∈ cz_T ∧ Cond.methodLink (cz_on 7) 247 (cz_nm mX7_turnerKind) ∈ cz_T ∧ Cond.instanceMethod (cz_nm mX7_turnerKind) ∈ cz_T ∧ Cond.code (cz_nm mX7_turnerKind) (cz_cc mX7_turnerKind) (cz_nL mX7_turnerKind) (cz_rt mX7_turnerKind) ∈ cz_T ∧ Cond.methodLink (cz_on 7) 226 (cz_nm mX7_takeSpan) ∈ cz_T ∧ Cond.instanceMethod (cz_nm mX7_takeSpan) ∈ cz_T ∧ Cond.code (cz_nm mX7_takeSpan) (cz_cc mX7_takeSpan) (cz_nL mX7_takeSpan) (cz_rt mX7_takeSpan) ∈ cz_T ∧ Cond.methodLink (cz_on 7) 264 (cz_nm mX7_readHuts) ∈ cz_T ∧ Cond.instanceMethod (cz_nm mX7_readHuts) ∈ cz_T ∧ Cond.code (cz_nm mX7_readHuts) (cz_cc mX7_readHuts) (cz_nL mX7_readHuts) (cz_rt mX7_readHuts) ∈ cz_T ∧ Cond.static (cz_nm mX10_bit) ∈ cz_T ∧ Cond.code (cz_nm mX10_bit) (cz_cc mX10_bit) (cz_nL mX10_bit) (cz_rt mX10_bit) ∈ cz_T ∧ Cond.methodLink (cz_on 7) 193 (cz_nm mX7_readCall) ∈ cz_T ∧ Cond.instanceMethod (cz_nm mX7_readCall) ∈ cz_T ∧ Cond.code (cz_nm mX7_readCall) (cz_cc mX7_readCall) (cz_nL mX7_readCall) (cz_rt mX7_readCall) ∈ cz_T ∧ Cond.methodLink (cz_on 7) 200 (cz_nm mX7_readEvent) ∈ cz_T ∧ True := bw_okT (gs := [209, 0, 1, 0, 4, 1, 0, 3, 1, 0, 1, 0, 0, 1, 0, 3]) (L := tables_1_3) (ws := [Cond.code (cz_nm mX7_readTurner) (cz_cc mX7_readTurner) (cz_nL mX7_readTurner) (cz_rt mX7_readTurner), Cond.methodLink (cz_on 7) 247 (cz_nm mX7_turnerKind), Cond.instanceMethod (cz_nm mX7_turnerKind), Cond.code (cz_nm mX7_turnerKind) (cz_cc mX7_turnerKind) (cz_nL mX7_turnerKind) (cz_rt mX7_turnerKind), Cond.methodLink (cz_on 7) 226 (cz_nm mX7_takeSpan), Cond.instanceMethod (cz_nm mX7_takeSpan), Cond.code (cz_nm mX7_takeSpan) (cz_cc mX7_takeSpan) (cz_nL mX7_takeSpan) (cz_rt mX7_takeSpan), Cond.methodLink (cz_on 7) 264 (cz_nm mX7_readHuts), Cond.instanceMethod (cz_nm mX7_readHuts), Cond.code (cz_nm mX7_readHuts) (cz_cc mX7_readHuts) (cz_nL mX7_readHuts) (cz_rt mX7_readHuts), Cond.static (cz_nm mX10_bit), Cond.code (cz_nm mX10_bit) (cz_cc mX10_bit) (cz_nL mX10_bit) (cz_rt mX10_bit), Cond.methodLink (cz_on 7) 193 (cz_nm mX7_readCall), Cond.instanceMethod (cz_nm mX7_readCall), Cond.code (cz_nm mX7_readCall) (cz_cc mX7_readCall) (cz_nL mX7_readCall) (cz_rt mX7_readCall), Cond.methodLink (cz_on 7) 200 (cz_nm mX7_readEvent)]) rfl (bw_g bw_s3) (by decide +kernel)
set_option maxRecDepth 20000 in
theorem bq14 : Cond.instanceMethod (cz_nm mX7_readEvent) ∈ cz_T ∧ Cond.code (cz_nm mX7_readEvent) (cz_cc mX7_readEvent) (cz_nL mX7_readEvent) (cz_rt mX7_readEvent) ∈ cz_T ∧ Cond.methodLink (cz_on 10) 99 (cz_nm mX3_clear) ∈ cz_T ∧ Cond.instanceMethod (cz_nm mX3_clear) ∈ cz_T ∧ Cond.selects (cz_on 3) (cz_nm mX3_clear) (cz_nm mX3_clear) ∈ cz_T ∧ Cond.code (cz_nm mX3_clear) (cz_cc mX3_clear) (cz_nL mX3_clear) (cz_rt mX3_clear) ∈ cz_T ∧ Cond.methodLink (cz_on 10) 102 (cz_nm mX6_clear) ∈ cz_T ∧ Cond.instanceMethod (cz_nm mX6_clear) ∈ cz_T ∧ Cond.selects (cz_on 6) (cz_nm mX6_clear) (cz_nm mX6_clear) ∈ cz_T ∧ Cond.code (cz_nm mX6_clear) (cz_cc mX6_clear) (cz_nL mX6_clear) (cz_rt mX6_clear) ∈ cz_T ∧ Cond.methodLink (cz_on 10) 103 (cz_nm mX10_cloudsMoved) ∈ cz_T ∧ Cond.instanceMethod (cz_nm mX10_cloudsMoved) ∈ cz_T ∧ Cond.code (cz_nm mX10_cloudsMoved) (cz_cc mX10_cloudsMoved) (cz_nL mX10_cloudsMoved) (cz_rt mX10_cloudsMoved) ∈ cz_T ∧ Cond.methodLink (cz_on 10) 109 (cz_nm mX10_answered) ∈ cz_T ∧ Cond.instanceMethod (cz_nm mX10_answered) ∈ cz_T ∧ Cond.code (cz_nm mX10_answered) (cz_cc mX10_answered) (cz_nL mX10_answered) (cz_rt mX10_answered) ∈ cz_T ∧ Cond.methodLink (cz_on 13) 28 (cz_nm mX10_fault) ∈ cz_T ∧ Cond.instanceMethod (cz_nm mX10_fault) ∈ cz_T ∧ Cond.selects (cz_on 10) (cz_nm mX10_fault) (cz_nm mX10_fault) ∈ cz_T ∧ Cond.code (cz_nm mX10_fault) (cz_cc mX10_fault) (cz_nL mX10_fault) (cz_rt mX10_fault) ∈ cz_T ∧ Cond.methodLink (cz_on 13) 33 (cz_nm mX10_where) ∈ cz_T ∧ Cond.instanceMethod (cz_nm mX10_where) ∈ cz_T ∧ Cond.selects (cz_on 10) (cz_nm mX10_where) (cz_nm mX10_where) ∈ cz_T ∧ Cond.code (cz_nm mX10_where) (cz_cc mX10_where) (cz_nL mX10_where) (cz_rt mX10_where) ∈ cz_T ∧ Cond.methodLink (cz_on 13) 37 (cz_nm mX10_sky) ∈ cz_T ∧ Cond.instanceMethod (cz_nm mX10_sky) ∈ cz_T ∧ Cond.selects (cz_on 10) (cz_nm mX10_sky) (cz_nm mX10_sky) ∈ cz_T ∧ Cond.code (cz_nm mX10_sky) (cz_cc mX10_sky) (cz_nL mX10_sky) (cz_rt mX10_sky) ∈ cz_T ∧ Cond.methodLink (cz_on 10) 115 (cz_nm mX10_isMinute) ∈ cz_T ∧ Cond.instanceMethod (cz_nm mX10_isMinute) ∈ cz_T ∧ True := bw_okT (gs := [1, 0, 0, 0, 0, 0, 0, 0, 0, 0, 0, 1, 0, 0, 1, 0, 0, 0, 0, 0, 0, 0, 0, 0, 0, 0, 0, 0, 0, 1]) (L := tables_1_4) (ws := [Cond.instanceMethod (cz_nm mX7_readEvent), Cond.code (cz_nm mX7_readEvent) (cz_cc mX7_readEvent) (cz_nL mX7_readEvent) (cz_rt mX7_readEvent), Cond.methodLink (cz_on 10) 99 (cz_nm mX3_clear), Cond.instanceMethod (cz_nm mX3_clear), Cond.selects (cz_on 3) (cz_nm mX3_clear) (cz_nm mX3_clear), Cond.code (cz_nm mX3_clear) (cz_cc mX3_clear) (cz_nL mX3_clear) (cz_rt mX3_clear), Cond.methodLink (cz_on 10) 102 (cz_nm mX6_clear), Cond.instanceMethod (cz_nm mX6_clear), Cond.selects (cz_on 6) (cz_nm mX6_clear) (cz_nm mX6_clear), Cond.code (cz_nm mX6_clear) (cz_cc mX6_clear) (cz_nL mX6_clear) (cz_rt mX6_clear), Cond.methodLink (cz_on 10) 103 (cz_nm mX10_cloudsMoved), Cond.instanceMethod (cz_nm mX10_cloudsMoved), Cond.code (cz_nm mX10_cloudsMoved) (cz_cc mX10_cloudsMoved) (cz_nL mX10_cloudsMoved) (cz_rt mX10_cloudsMoved), Cond.methodLink (cz_on 10) 109 (cz_nm mX10_answered), Cond.instanceMethod (cz_nm mX10_answered), Cond.code (cz_nm mX10_answered) (cz_cc mX10_answered) (cz_nL mX10_answered) (cz_rt mX10_answered), Cond.methodLink (cz_on 13) 28 (cz_nm mX10_fault), Cond.instanceMethod (cz_nm mX10_fault), Cond.selects (cz_on 10) (cz_nm mX10_fault) (cz_nm mX10_fault), Cond.code (cz_nm mX10_fault) (cz_cc mX10_fault) (cz_nL mX10_fault) (cz_rt mX10_fault), Cond.methodLink (cz_on 13) 33 (cz_nm mX10_where), Cond.instanceMethod (cz_nm mX10_where), Cond.selects (cz_on 10) (cz_nm mX10_where) (cz_nm mX10_where), Cond.code (cz_nm mX10_where) (cz_cc mX10_where) (cz_nL mX10_where) (cz_rt mX10_where), Cond.methodLink (cz_on 13) 37 (cz_nm mX10_sky), Cond.instanceMethod (cz_nm mX10_sky), Cond.selects (cz_on 10) (cz_nm mX10_sky) (cz_nm mX10_sky), Cond.code (cz_nm mX10_sky) (cz_cc mX10_sky) (cz_nL mX10_sky) (cz_rt mX10_sky), Cond.methodLink (cz_on 10) 115 (cz_nm mX10_isMinute), Cond.instanceMethod (cz_nm mX10_isMinute)]) rfl (bw_g bw_s4) (by decide +kernel)
set_option maxRecDepth 20000 in
theorem bq15 : Cond.code (cz_nm mX10_isMinute) (cz_cc mX10_isMinute) (cz_nL mX10_isMinute) (cz_rt mX10_isMinute) ∈ cz_T ∧ Cond.methodLink (cz_on 10) 119 (cz_nm mX10_presentSky) ∈ cz_T ∧ Cond.instanceMethod (cz_nm mX10_presentSky) ∈ cz_T ∧ Cond.code (cz_nm mX10_presentSky) (cz_cc mX10_presentSky) (cz_nL mX10_presentSky) (cz_rt mX10_presentSky) ∈ cz_T ∧ Cond.methodLink (cz_on 10) 237 (cz_nm mX8_build) ∈ cz_T ∧ Cond.instanceMethod (cz_nm mX8_build) ∈ cz_T ∧ Cond.selects (cz_on 8) (cz_nm mX8_build) (cz_nm mX8_build) ∈ cz_T ∧ Cond.code (cz_nm mX8_build) (cz_cc mX8_build) (cz_nL mX8_build) (cz_rt mX8_build) ∈ cz_T ∧ Cond.methodLink (cz_on 8) 53 (cz_nm mX8_wipe) ∈ cz_T ∧ Cond.instanceMethod (cz_nm mX8_wipe) ∈ cz_T ∧ Cond.code (cz_nm mX8_wipe) (cz_cc mX8_wipe) (cz_nL mX8_wipe) (cz_rt mX8_wipe) ∈ cz_T ∧ Cond.methodLink (cz_on 8) 63 (cz_nm mX8_layEvent) ∈ cz_T ∧ Cond.instanceMethod (cz_nm mX8_layEvent) ∈ cz_T ∧ Cond.code (cz_nm mX8_layEvent) (cz_cc mX8_layEvent) (cz_nL mX8_layEvent) (cz_rt mX8_layEvent) ∈ cz_T ∧ Cond.methodLink (cz_on 8) 78 (cz_nm mX8_layCloud) ∈ cz_T ∧ Cond.instanceMethod (cz_nm mX8_layCloud) ∈ cz_T ∧ Cond.code (cz_nm mX8_layCloud) (cz_cc mX8_layCloud) (cz_nL mX8_layCloud) (cz_rt mX8_layCloud) ∈ cz_T ∧ Cond.methodLink (cz_on 8) 82 (cz_nm mX8_findLight) ∈ cz_T ∧ Cond.instanceMethod (cz_nm mX8_findLight) ∈ cz_T ∧ Cond.code (cz_nm mX8_findLight) (cz_cc mX8_findLight) (cz_nL mX8_findLight) (cz_rt mX8_findLight) ∈ cz_T ∧ Cond.methodLink (cz_on 8) 105 (cz_nm mX8_isBright) ∈ cz_T ∧ Cond.instanceMethod (cz_nm mX8_isBright) ∈ cz_T ∧ Cond.selects (cz_on 8) (cz_nm mX8_isBright) (cz_nm mX8_isBright) ∈ cz_T ∧ Cond.code (cz_nm mX8_isBright) (cz_cc mX8_isBright) (cz_nL mX8_isBright) (cz_rt mX8_isBright) ∈ cz_T ∧ Cond.methodLink (cz_on 8) 89 (cz_nm mX8_findStirs) ∈ cz_T ∧ Cond.instanceMethod (cz_nm mX8_findStirs) ∈ cz_T ∧ Cond.code (cz_nm mX8_findStirs) (cz_cc mX8_findStirs) (cz_nL mX8_findStirs) (cz_rt mX8_findStirs) ∈ cz_T ∧ Cond.methodLink (cz_on 8) 112 (cz_nm mX4_holds) ∈ cz_T ∧ Cond.instanceMethod (cz_nm mX4_holds) ∈ cz_T ∧ Cond.selects (cz_on 4) (cz_nm mX4_holds) (cz_nm mX4_holds) ∈ cz_T ∧ True := bw_okT (gs := [34, 0, 1, 0, 0, 0, 0, 0, 0, 1, 0, 0, 1, 0, 0, 1, 0, 0, 1, 0, 0, 0, 0, 0, 0, 1, 0, 0, 0, 0]) (L := tables_1_4) (ws := [Cond.code (cz_nm mX10_isMinute) (cz_cc mX10_isMinute) (cz_nL mX10_isMinute) (cz_rt mX10_isMinute), Cond.methodLink (cz_on 10) 119 (cz_nm mX10_presentSky), Cond.instanceMethod (cz_nm mX10_presentSky), Cond.code (cz_nm mX10_presentSky) (cz_cc mX10_presentSky) (cz_nL mX10_presentSky) (cz_rt mX10_presentSky), Cond.methodLink (cz_on 10) 237 (cz_nm mX8_build), Cond.instanceMethod (cz_nm mX8_build), Cond.selects (cz_on 8) (cz_nm mX8_build) (cz_nm mX8_build), Cond.code (cz_nm mX8_build) (cz_cc mX8_build) (cz_nL mX8_build) (cz_rt mX8_build), Cond.methodLink (cz_on 8) 53 (cz_nm mX8_wipe), Cond.instanceMethod (cz_nm mX8_wipe), Cond.code (cz_nm mX8_wipe) (cz_cc mX8_wipe) (cz_nL mX8_wipe) (cz_rt mX8_wipe), Cond.methodLink (cz_on 8) 63 (cz_nm mX8_layEvent), Cond.instanceMethod (cz_nm mX8_layEvent), Cond.code (cz_nm mX8_layEvent) (cz_cc mX8_layEvent) (cz_nL mX8_layEvent) (cz_rt mX8_layEvent), Cond.methodLink (cz_on 8) 78 (cz_nm mX8_layCloud), Cond.instanceMethod (cz_nm mX8_layCloud), Cond.code (cz_nm mX8_layCloud) (cz_cc mX8_layCloud) (cz_nL mX8_layCloud) (cz_rt mX8_layCloud), Cond.methodLink (cz_on 8) 82 (cz_nm mX8_findLight), Cond.instanceMethod (cz_nm mX8_findLight), Cond.code (cz_nm mX8_findLight) (cz_cc mX8_findLight) (cz_nL mX8_findLight) (cz_rt mX8_findLight), Cond.methodLink (cz_on 8) 105 (cz_nm mX8_isBright), Cond.instanceMethod (cz_nm mX8_isBright), Cond.selects (cz_on 8) (cz_nm mX8_isBright) (cz_nm mX8_isBright), Cond.code (cz_nm mX8_isBright) (cz_cc mX8_isBright) (cz_nL mX8_isBright) (cz_rt mX8_isBright), Cond.methodLink (cz_on 8) 89 (cz_nm mX8_findStirs), Cond.instanceMethod (cz_nm mX8_findStirs), Cond.code (cz_nm mX8_findStirs) (cz_cc mX8_findStirs) (cz_nL mX8_findStirs) (cz_rt mX8_findStirs), Cond.methodLink (cz_on 8) 112 (cz_nm mX4_holds), Cond.instanceMethod (cz_nm mX4_holds), Cond.selects (cz_on 4) (cz_nm mX4_holds) (cz_nm mX4_holds)]) rfl (bw_g bw_s4) (by decide +kernel)
set_option maxRecDepth 20000 in
theorem bq16 : Cond.code (cz_nm mX4_holds) (cz_cc mX4_holds) (cz_nL mX4_holds) (cz_rt mX4_holds) ∈ cz_T ∧ Cond.methodLink (cz_on 10) 123 (cz_nm mX8_isBright) ∈ cz_T ∧ Cond.methodLink (cz_on 13) 41 (cz_nm mX10_light) ∈ cz_T ∧ Cond.instanceMethod (cz_nm mX10_light) ∈ cz_T ∧ Cond.selects (cz_on 10) (cz_nm mX10_light) (cz_nm mX10_light) ∈ cz_T ∧ Cond.code (cz_nm mX10_light) (cz_cc mX10_light) (cz_nL mX10_light) (cz_rt mX10_light) ∈ cz_T ∧ Cond.methodLink (cz_on 10) 126 (cz_nm mX10_isHut) ∈ cz_T ∧ Cond.instanceMethod (cz_nm mX10_isHut) ∈ cz_T ∧ Cond.code (cz_nm mX10_isHut) (cz_cc mX10_isHut) (cz_nL mX10_isHut) (cz_rt mX10_isHut) ∈ cz_T ∧ Cond.methodLink (cz_on 10) 136 (cz_nm mX10_bit) ∈ cz_T ∧ Cond.methodLink (cz_on 13) 46 (cz_nm mX10_changes) ∈ cz_T ∧ Cond.instanceMethod (cz_nm mX10_changes) ∈ cz_T ∧ Cond.selects (cz_on 10) (cz_nm mX10_changes) (cz_nm mX10_changes) ∈ cz_T ∧ Cond.code (cz_nm mX10_changes) (cz_cc mX10_changes) (cz_nL mX10_changes) (cz_rt mX10_changes) ∈ cz_T ∧ Cond.methodLink (cz_on 13) 51 (cz_nm mX10_change) ∈ cz_T ∧ Cond.instanceMethod (cz_nm mX10_change) ∈ cz_T ∧ Cond.selects (cz_on 10) (cz_nm mX10_change) (cz_nm mX10_change) ∈ cz_T ∧ Cond.code (cz_nm mX10_change) (cz_cc mX10_change) (cz_nL mX10_change) (cz_rt mX10_change) ∈ cz_T ∧ Cond.methodLink (cz_on 13) 56 (cz_nm mX10_peak) ∈ cz_T ∧ Cond.instanceMethod (cz_nm mX10_peak) ∈ cz_T ∧ Cond.selects (cz_on 10) (cz_nm mX10_peak) (cz_nm mX10_peak) ∈ cz_T ∧ Cond.code (cz_nm mX10_peak) (cz_cc mX10_peak) (cz_nL mX10_peak) (cz_rt mX10_peak) ∈ cz_T ∧ Cond.methodLink (cz_on 10) 149 (cz_nm mX0_cheesesIn) ∈ cz_T ∧ Cond.instanceMethod (cz_nm mX0_cheesesIn) ∈ cz_T ∧ Cond.selects (cz_on 0) (cz_nm mX0_cheesesIn) (cz_nm mX0_cheesesIn) ∈ cz_T ∧ Cond.code (cz_nm mX0_cheesesIn) (cz_cc mX0_cheesesIn) (cz_nL mX0_cheesesIn) (cz_rt mX0_cheesesIn) ∈ cz_T ∧ Cond.methodLink (cz_on 13) 60 (cz_nm mX10_due) ∈ cz_T ∧ Cond.instanceMethod (cz_nm mX10_due) ∈ cz_T ∧ Cond.selects (cz_on 10) (cz_nm mX10_due) (cz_nm mX10_due) ∈ cz_T ∧ Cond.code (cz_nm mX10_due) (cz_cc mX10_due) (cz_nL mX10_due) (cz_rt mX10_due) ∈ cz_T ∧ True := bw_okT (gs := [70, 0, 0, 0, 0, 0, 0, 1, 0, 0, 0, 0, 0, 0, 0, 0, 0, 0, 0, 0, 0, 0, 0, 0, 0, 0, 1, 0, 0, 0]) (L := tables_1_4) (ws := [Cond.code (cz_nm mX4_holds) (cz_cc mX4_holds) (cz_nL mX4_holds) (cz_rt mX4_holds), Cond.methodLink (cz_on 10) 123 (cz_nm mX8_isBright), Cond.methodLink (cz_on 13) 41 (cz_nm mX10_light), Cond.instanceMethod (cz_nm mX10_light), Cond.selects (cz_on 10) (cz_nm mX10_light) (cz_nm mX10_light), Cond.code (cz_nm mX10_light) (cz_cc mX10_light) (cz_nL mX10_light) (cz_rt mX10_light), Cond.methodLink (cz_on 10) 126 (cz_nm mX10_isHut), Cond.instanceMethod (cz_nm mX10_isHut), Cond.code (cz_nm mX10_isHut) (cz_cc mX10_isHut) (cz_nL mX10_isHut) (cz_rt mX10_isHut), Cond.methodLink (cz_on 10) 136 (cz_nm mX10_bit), Cond.methodLink (cz_on 13) 46 (cz_nm mX10_changes), Cond.instanceMethod (cz_nm mX10_changes), Cond.selects (cz_on 10) (cz_nm mX10_changes) (cz_nm mX10_changes), Cond.code (cz_nm mX10_changes) (cz_cc mX10_changes) (cz_nL mX10_changes) (cz_rt mX10_changes), Cond.methodLink (cz_on 13) 51 (cz_nm mX10_change), Cond.instanceMethod (cz_nm mX10_change), Cond.selects (cz_on 10) (cz_nm mX10_change) (cz_nm mX10_change), Cond.code (cz_nm mX10_change) (cz_cc mX10_change) (cz_nL mX10_change) (cz_rt mX10_change), Cond.methodLink (cz_on 13) 56 (cz_nm mX10_peak), Cond.instanceMethod (cz_nm mX10_peak), Cond.selects (cz_on 10) (cz_nm mX10_peak) (cz_nm mX10_peak), Cond.code (cz_nm mX10_peak) (cz_cc mX10_peak) (cz_nL mX10_peak) (cz_rt mX10_peak), Cond.methodLink (cz_on 10) 149 (cz_nm mX0_cheesesIn), Cond.instanceMethod (cz_nm mX0_cheesesIn), Cond.selects (cz_on 0) (cz_nm mX0_cheesesIn) (cz_nm mX0_cheesesIn), Cond.code (cz_nm mX0_cheesesIn) (cz_cc mX0_cheesesIn) (cz_nL mX0_cheesesIn) (cz_rt mX0_cheesesIn), Cond.methodLink (cz_on 13) 60 (cz_nm mX10_due), Cond.instanceMethod (cz_nm mX10_due), Cond.selects (cz_on 10) (cz_nm mX10_due) (cz_nm mX10_due), Cond.code (cz_nm mX10_due) (cz_cc mX10_due) (cz_nL mX10_due) (cz_rt mX10_due)]) rfl (bw_g bw_s4) (by decide +kernel)
set_option maxRecDepth 20000 in
theorem bq17 : Cond.methodLink (cz_on 13) 64 (cz_nm mX10_awake) ∈ cz_T ∧ Cond.instanceMethod (cz_nm mX10_awake) ∈ cz_T ∧ Cond.selects (cz_on 10) (cz_nm mX10_awake) (cz_nm mX10_awake) ∈ cz_T ∧ Cond.code (cz_nm mX10_awake) (cz_cc mX10_awake) (cz_nL mX10_awake) (cz_rt mX10_awake) ∈ cz_T ∧ Cond.methodLink (cz_on 10) 152 (cz_nm mX10_isTurner) ∈ cz_T ∧ Cond.instanceMethod (cz_nm mX10_isTurner) ∈ cz_T ∧ Cond.code (cz_nm mX10_isTurner) (cz_cc mX10_isTurner) (cz_nL mX10_isTurner) (cz_rt mX10_isTurner) ∈ cz_T ∧ Cond.methodLink (cz_on 10) 155 (cz_nm mX10_presentNight) ∈ cz_T ∧ Cond.instanceMethod (cz_nm mX10_presentNight) ∈ cz_T ∧ Cond.code (cz_nm mX10_presentNight) (cz_cc mX10_presentNight) (cz_nL mX10_presentNight) (cz_rt mX10_presentNight) ∈ cz_T ∧ Cond.methodLink (cz_on 10) 184 (cz_nm mX10_allTurners) ∈ cz_T ∧ Cond.instanceMethod (cz_nm mX10_allTurners) ∈ cz_T ∧ Cond.code (cz_nm mX10_allTurners) (cz_cc mX10_allTurners) (cz_nL mX10_allTurners) (cz_rt mX10_allTurners) ∈ cz_T ∧ Cond.methodLink (cz_on 10) 188 (cz_nm mX5_play) ∈ cz_T ∧ Cond.instanceMethod (cz_nm mX5_play) ∈ cz_T ∧ Cond.selects (cz_on 5) (cz_nm mX5_play) (cz_nm mX5_play) ∈ cz_T ∧ Cond.code (cz_nm mX5_play) (cz_cc mX5_play) (cz_nL mX5_play) (cz_rt mX5_play) ∈ cz_T ∧ Cond.methodLink (cz_on 5) 51 (cz_nm mX5_forget) ∈ cz_T ∧ Cond.instanceMethod (cz_nm mX5_forget) ∈ cz_T ∧ Cond.code (cz_nm mX5_forget) (cz_cc mX5_forget) (cz_nL mX5_forget) (cz_rt mX5_forget) ∈ cz_T ∧ Cond.methodLink (cz_on 5) 75 (cz_nm mJ7_fill_53178) ∈ cz_T ∧ Cond.static (cz_nm mJ7_fill_53178) ∈ cz_T ∧ Cond.code (cz_nm mJ7_fill_53178) (cz_cc mJ7_fill_53178) (cz_nL mJ7_fill_53178) (cz_rt mJ7_fill_53178) ∈ cz_T ∧ Cond.methodLink (cz_on 5) 67 (cz_nm mX5_turnAll) ∈ cz_T ∧ Cond.instanceMethod (cz_nm mX5_turnAll) ∈ cz_T ∧ Cond.code (cz_nm mX5_turnAll) (cz_cc mX5_turnAll) (cz_nL mX5_turnAll) (cz_rt mX5_turnAll) ∈ cz_T ∧ Cond.methodLink (cz_on 5) 87 (cz_nm mX5_noticedHuts) ∈ cz_T ∧ Cond.instanceMethod (cz_nm mX5_noticedHuts) ∈ cz_T ∧ Cond.selects (cz_on 5) (cz_nm mX5_noticedHuts) (cz_nm mX5_noticedHuts) ∈ cz_T ∧ Cond.code (cz_nm mX5_noticedHuts) (cz_cc mX5_noticedHuts) (cz_nL mX5_noticedHuts) (cz_rt mX5_noticedHuts) ∈ cz_T ∧ True := bw_okT (gs := [102, 0, 0, 0, 0, 1, 0, 0, 1, 0, 0, 1, 0, 0, 0, 0, 0, 0, 1, 0, 0, 0, 0, 0, 1, 0, 1, 0, 0, 0]) (L := tables_1_4) (ws := [Cond.methodLink (cz_on 13) 64 (cz_nm mX10_awake), Cond.instanceMethod (cz_nm mX10_awake), Cond.selects (cz_on 10) (cz_nm mX10_awake) (cz_nm mX10_awake), Cond.code (cz_nm mX10_awake) (cz_cc mX10_awake) (cz_nL mX10_awake) (cz_rt mX10_awake), Cond.methodLink (cz_on 10) 152 (cz_nm mX10_isTurner), Cond.instanceMethod (cz_nm mX10_isTurner), Cond.code (cz_nm mX10_isTurner) (cz_cc mX10_isTurner) (cz_nL mX10_isTurner) (cz_rt mX10_isTurner), Cond.methodLink (cz_on 10) 155 (cz_nm mX10_presentNight), Cond.instanceMethod (cz_nm mX10_presentNight), Cond.code (cz_nm mX10_presentNight) (cz_cc mX10_presentNight) (cz_nL mX10_presentNight) (cz_rt mX10_presentNight), Cond.methodLink (cz_on 10) 184 (cz_nm mX10_allTurners), Cond.instanceMethod (cz_nm mX10_allTurners), Cond.code (cz_nm mX10_allTurners) (cz_cc mX10_allTurners) (cz_nL mX10_allTurners) (cz_rt mX10_allTurners), Cond.methodLink (cz_on 10) 188 (cz_nm mX5_play), Cond.instanceMethod (cz_nm mX5_play), Cond.selects (cz_on 5) (cz_nm mX5_play) (cz_nm mX5_play), Cond.code (cz_nm mX5_play) (cz_cc mX5_play) (cz_nL mX5_play) (cz_rt mX5_play), Cond.methodLink (cz_on 5) 51 (cz_nm mX5_forget), Cond.instanceMethod (cz_nm mX5_forget), Cond.code (cz_nm mX5_forget) (cz_cc mX5_forget) (cz_nL mX5_forget) (cz_rt mX5_forget), Cond.methodLink (cz_on 5) 75 (cz_nm mJ7_fill_53178), Cond.static (cz_nm mJ7_fill_53178), Cond.code (cz_nm mJ7_fill_53178) (cz_cc mJ7_fill_53178) (cz_nL mJ7_fill_53178) (cz_rt mJ7_fill_53178), Cond.methodLink (cz_on 5) 67 (cz_nm mX5_turnAll), Cond.instanceMethod (cz_nm mX5_turnAll), Cond.code (cz_nm mX5_turnAll) (cz_cc mX5_turnAll) (cz_nL mX5_turnAll) (cz_rt mX5_turnAll), Cond.methodLink (cz_on 5) 87 (cz_nm mX5_noticedHuts), Cond.instanceMethod (cz_nm mX5_noticedHuts), Cond.selects (cz_on 5) (cz_nm mX5_noticedHuts) (cz_nm mX5_noticedHuts), Cond.code (cz_nm mX5_noticedHuts) (cz_cc mX5_noticedHuts) (cz_nL mX5_noticedHuts) (cz_rt mX5_noticedHuts)]) rfl (bw_g bw_s4) (by decide +kernel)
set_option maxRecDepth 20000 in
theorem bq18 : Cond.methodLink (cz_on 5) 162 (cz_nm mX4_holds) ∈ cz_T ∧ Cond.methodLink (cz_on 5) 99 (cz_nm mX5_isAwake) ∈ cz_T ∧ Cond.instanceMethod (cz_nm mX5_isAwake) ∈ cz_T ∧ Cond.selects (cz_on 5) (cz_nm mX5_isAwake) (cz_nm mX5_isAwake) ∈ cz_T ∧ Cond.code (cz_nm mX5_isAwake) (cz_cc mX5_isAwake) (cz_nL mX5_isAwake) (cz_rt mX5_isAwake) ∈ cz_T ∧ Cond.methodLink (cz_on 5) 138 (cz_nm mX5_isCalled) ∈ cz_T ∧ Cond.instanceMethod (cz_nm mX5_isCalled) ∈ cz_T ∧ Cond.code (cz_nm mX5_isCalled) (cz_cc mX5_isCalled) (cz_nL mX5_isCalled) (cz_rt mX5_isCalled) ∈ cz_T ∧ Cond.methodLink (cz_on 5) 103 (cz_nm mX5_turnSome) ∈ cz_T ∧ Cond.instanceMethod (cz_nm mX5_turnSome) ∈ cz_T ∧ Cond.code (cz_nm mX5_turnSome) (cz_cc mX5_turnSome) (cz_nL mX5_turnSome) (cz_rt mX5_turnSome) ∈ cz_T ∧ Cond.methodLink (cz_on 5) 71 (cz_nm mX5_judge) ∈ cz_T ∧ Cond.instanceMethod (cz_nm mX5_judge) ∈ cz_T ∧ Cond.code (cz_nm mX5_judge) (cz_cc mX5_judge) (cz_nL mX5_judge) (cz_rt mX5_judge) ∈ cz_T ∧ Cond.methodLink (cz_on 5) 121 (cz_nm mX8_crackingHuts) ∈ cz_T ∧ Cond.instanceMethod (cz_nm mX8_crackingHuts) ∈ cz_T ∧ Cond.selects (cz_on 8) (cz_nm mX8_crackingHuts) (cz_nm mX8_crackingHuts) ∈ cz_T ∧ Cond.code (cz_nm mX8_crackingHuts) (cz_cc mX8_crackingHuts) (cz_nL mX8_crackingHuts) (cz_rt mX8_crackingHuts) ∈ cz_T ∧ Cond.methodLink (cz_on 10) 159 (cz_nm mX5_isAwake) ∈ cz_T ∧ Cond.methodLink (cz_on 13) 68 (cz_nm mX10_notices) ∈ cz_T ∧ Cond.instanceMethod (cz_nm mX10_notices) ∈ cz_T ∧ Cond.selects (cz_on 10) (cz_nm mX10_notices) (cz_nm mX10_notices) ∈ cz_T ∧ Cond.code (cz_nm mX10_notices) (cz_cc mX10_notices) (cz_nL mX10_notices) (cz_rt mX10_notices) ∈ cz_T ∧ Cond.methodLink (cz_on 10) 163 (cz_nm mX5_noticedHuts) ∈ cz_T ∧ Cond.methodLink (cz_on 13) 73 (cz_nm mX10_work) ∈ cz_T ∧ Cond.instanceMethod (cz_nm mX10_work) ∈ cz_T ∧ Cond.selects (cz_on 10) (cz_nm mX10_work) (cz_nm mX10_work) ∈ cz_T ∧ Cond.code (cz_nm mX10_work) (cz_cc mX10_work) (cz_nL mX10_work) (cz_rt mX10_work) ∈ cz_T ∧ Cond.methodLink (cz_on 10) 175 (cz_nm mX5_minutesAwake) ∈ cz_T ∧ Cond.instanceMethod (cz_nm mX5_minutesAwake) ∈ cz_T ∧ True := bw_okT (gs := [138, 0, 0, 0, 0, 0, 1, 0, 0, 1, 0, 0, 1, 0, 0, 0, 0, 0, 0, 0, 0, 0, 0, 0, 0, 0, 0, 0, 0, 0]) (L := tables_1_4) (ws := [Cond.methodLink (cz_on 5) 162 (cz_nm mX4_holds), Cond.methodLink (cz_on 5) 99 (cz_nm mX5_isAwake), Cond.instanceMethod (cz_nm mX5_isAwake), Cond.selects (cz_on 5) (cz_nm mX5_isAwake) (cz_nm mX5_isAwake), Cond.code (cz_nm mX5_isAwake) (cz_cc mX5_isAwake) (cz_nL mX5_isAwake) (cz_rt mX5_isAwake), Cond.methodLink (cz_on 5) 138 (cz_nm mX5_isCalled), Cond.instanceMethod (cz_nm mX5_isCalled), Cond.code (cz_nm mX5_isCalled) (cz_cc mX5_isCalled) (cz_nL mX5_isCalled) (cz_rt mX5_isCalled), Cond.methodLink (cz_on 5) 103 (cz_nm mX5_turnSome), Cond.instanceMethod (cz_nm mX5_turnSome), Cond.code (cz_nm mX5_turnSome) (cz_cc mX5_turnSome) (cz_nL mX5_turnSome) (cz_rt mX5_turnSome), Cond.methodLink (cz_on 5) 71 (cz_nm mX5_judge), Cond.instanceMethod (cz_nm mX5_judge), Cond.code (cz_nm mX5_judge) (cz_cc mX5_judge) (cz_nL mX5_judge) (cz_rt mX5_judge), Cond.methodLink (cz_on 5) 121 (cz_nm mX8_crackingHuts), Cond.instanceMethod (cz_nm mX8_crackingHuts), Cond.selects (cz_on 8) (cz_nm mX8_crackingHuts) (cz_nm mX8_crackingHuts), Cond.code (cz_nm mX8_crackingHuts) (cz_cc mX8_crackingHuts) (cz_nL mX8_crackingHuts) (cz_rt mX8_crackingHuts), Cond.methodLink (cz_on 10) 159 (cz_nm mX5_isAwake), Cond.methodLink (cz_on 13) 68 (cz_nm mX10_notices), Cond.instanceMethod (cz_nm mX10_notices), Cond.selects (cz_on 10) (cz_nm mX10_notices) (cz_nm mX10_notices), Cond.code (cz_nm mX10_notices) (cz_cc mX10_notices) (cz_nL mX10_notices) (cz_rt mX10_notices), Cond.methodLink (cz_on 10) 163 (cz_nm mX5_noticedHuts), Cond.methodLink (cz_on 13) 73 (cz_nm mX10_work), Cond.instanceMethod (cz_nm mX10_work), Cond.selects (cz_on 10) (cz_nm mX10_work) (cz_nm mX10_work), Cond.code (cz_nm mX10_work) (cz_cc mX10_work) (cz_nL mX10_work) (cz_rt mX10_work), Cond.methodLink (cz_on 10) 175 (cz_nm mX5_minutesAwake), Cond.instanceMethod (cz_nm mX5_minutesAwake)]) rfl (bw_g bw_s4) (by decide +kernel)
set_option maxRecDepth 20000 in
theorem bq19 : Cond.selects (cz_on 5) (cz_nm mX5_minutesAwake) (cz_nm mX5_minutesAwake) ∈ cz_T ∧ Cond.code (cz_nm mX5_minutesAwake) (cz_cc mX5_minutesAwake) (cz_nL mX5_minutesAwake) (cz_rt mX5_minutesAwake) ∈ cz_T ∧ Cond.methodLink (cz_on 13) 77 (cz_nm mX10_worth) ∈ cz_T ∧ Cond.instanceMethod (cz_nm mX10_worth) ∈ cz_T ∧ Cond.selects (cz_on 10) (cz_nm mX10_worth) (cz_nm mX10_worth) ∈ cz_T ∧ Cond.code (cz_nm mX10_worth) (cz_cc mX10_worth) (cz_nL mX10_worth) (cz_rt mX10_worth) ∈ cz_T ∧ Cond.methodLink (cz_on 10) 178 (cz_nm mX10_refusedTotal) ∈ cz_T ∧ Cond.instanceMethod (cz_nm mX10_refusedTotal) ∈ cz_T ∧ Cond.code (cz_nm mX10_refusedTotal) (cz_cc mX10_refusedTotal) (cz_nL mX10_refusedTotal) (cz_rt mX10_refusedTotal) ∈ cz_T ∧ Cond.constant (cz_on 10) 356 (-100000) ∈ cz_T ∧ Cond.methodLink (cz_on 10) 192 (cz_nm mX5_sum) ∈ cz_T ∧ Cond.instanceMethod (cz_nm mX5_sum) ∈ cz_T ∧ Cond.selects (cz_on 5) (cz_nm mX5_sum) (cz_nm mX5_sum) ∈ cz_T ∧ Cond.code (cz_nm mX5_sum) (cz_cc mX5_sum) (cz_nL mX5_sum) (cz_rt mX5_sum) ∈ cz_T ∧ Cond.methodLink (cz_on 5) 200 (cz_nm mX0_costOf) ∈ cz_T ∧ Cond.instanceMethod (cz_nm mX0_costOf) ∈ cz_T ∧ Cond.selects (cz_on 0) (cz_nm mX0_costOf) (cz_nm mX0_costOf) ∈ cz_T ∧ Cond.code (cz_nm mX0_costOf) (cz_cc mX0_costOf) (cz_nL mX0_costOf) (cz_rt mX0_costOf) ∈ cz_T ∧ Cond.methodLink (cz_on 5) 203 (cz_nm mX5_price) ∈ cz_T ∧ Cond.instanceMethod (cz_nm mX5_price) ∈ cz_T ∧ Cond.selects (cz_on 5) (cz_nm mX5_price) (cz_nm mX5_price) ∈ cz_T ∧ Cond.code (cz_nm mX5_price) (cz_cc mX5_price) (cz_nL mX5_price) (cz_rt mX5_price) ∈ cz_T ∧ Cond.methodLink (cz_on 5) 195 (cz_nm mJ9_max_7cf53) ∈ cz_T ∧ Cond.static (cz_nm mJ9_max_7cf53) ∈ cz_T ∧ Cond.code (cz_nm mJ9_max_7cf53) (cz_cc mJ9_max_7cf53) (cz_nL mJ9_max_7cf53) (cz_rt mJ9_max_7cf53) ∈ cz_T ∧ Cond.methodLink (cz_on 13) 81 (cz_nm mX10_turned) ∈ cz_T ∧ Cond.instanceMethod (cz_nm mX10_turned) ∈ cz_T ∧ Cond.selects (cz_on 10) (cz_nm mX10_turned) (cz_nm mX10_turned) ∈ cz_T ∧ Cond.code (cz_nm mX10_turned) (cz_cc mX10_turned) (cz_nL mX10_turned) (cz_rt mX10_turned) ∈ cz_T ∧ Cond.methodLink (cz_on 10) 195 (cz_nm mX10_isCheese) ∈ cz_T ∧ True := bw_okT (gs := [171, 0, 0, 0, 0, 0, 0, 1, 0, 0, 0, 0, 0, 0, 0, 0, 0, 0, 0, 0, 0, 0, 0, 0, 0, 0, 0, 0, 0, 0]) (L := tables_1_4) (ws := [Cond.selects (cz_on 5) (cz_nm mX5_minutesAwake) (cz_nm mX5_minutesAwake), Cond.code (cz_nm mX5_minutesAwake) (cz_cc mX5_minutesAwake) (cz_nL mX5_minutesAwake) (cz_rt mX5_minutesAwake), Cond.methodLink (cz_on 13) 77 (cz_nm mX10_worth), Cond.instanceMethod (cz_nm mX10_worth), Cond.selects (cz_on 10) (cz_nm mX10_worth) (cz_nm mX10_worth), Cond.code (cz_nm mX10_worth) (cz_cc mX10_worth) (cz_nL mX10_worth) (cz_rt mX10_worth), Cond.methodLink (cz_on 10) 178 (cz_nm mX10_refusedTotal), Cond.instanceMethod (cz_nm mX10_refusedTotal), Cond.code (cz_nm mX10_refusedTotal) (cz_cc mX10_refusedTotal) (cz_nL mX10_refusedTotal) (cz_rt mX10_refusedTotal), Cond.constant (cz_on 10) 356 (-100000), Cond.methodLink (cz_on 10) 192 (cz_nm mX5_sum), Cond.instanceMethod (cz_nm mX5_sum), Cond.selects (cz_on 5) (cz_nm mX5_sum) (cz_nm mX5_sum), Cond.code (cz_nm mX5_sum) (cz_cc mX5_sum) (cz_nL mX5_sum) (cz_rt mX5_sum), Cond.methodLink (cz_on 5) 200 (cz_nm mX0_costOf), Cond.instanceMethod (cz_nm mX0_costOf), Cond.selects (cz_on 0) (cz_nm mX0_costOf) (cz_nm mX0_costOf), Cond.code (cz_nm mX0_costOf) (cz_cc mX0_costOf) (cz_nL mX0_costOf) (cz_rt mX0_costOf), Cond.methodLink (cz_on 5) 203 (cz_nm mX5_price), Cond.instanceMethod (cz_nm mX5_price), Cond.selects (cz_on 5) (cz_nm mX5_price) (cz_nm mX5_price), Cond.code (cz_nm mX5_price) (cz_cc mX5_price) (cz_nL mX5_price) (cz_rt mX5_price), Cond.methodLink (cz_on 5) 195 (cz_nm mJ9_max_7cf53), Cond.static (cz_nm mJ9_max_7cf53), Cond.code (cz_nm mJ9_max_7cf53) (cz_cc mJ9_max_7cf53) (cz_nL mJ9_max_7cf53) (cz_rt mJ9_max_7cf53), Cond.methodLink (cz_on 13) 81 (cz_nm mX10_turned), Cond.instanceMethod (cz_nm mX10_turned), Cond.selects (cz_on 10) (cz_nm mX10_turned) (cz_nm mX10_turned), Cond.code (cz_nm mX10_turned) (cz_cc mX10_turned) (cz_nL mX10_turned) (cz_rt mX10_turned), Cond.methodLink (cz_on 10) 195 (cz_nm mX10_isCheese)]) rfl (bw_g bw_s4) (by decide +kernel)
set_option maxRecDepth 20000 in
theorem bq20 : Cond.instanceMethod (cz_nm mX10_isCheese) ∈ cz_T ∧ Cond.code (cz_nm mX10_isCheese) (cz_cc mX10_isCheese) (cz_nL mX10_isCheese) (cz_rt mX10_isCheese) ∈ cz_T ∧ Cond.methodLink (cz_on 10) 198 (cz_nm mX5_turnerOf) ∈ cz_T ∧ Cond.instanceMethod (cz_nm mX5_turnerOf) ∈ cz_T ∧ Cond.selects (cz_on 5) (cz_nm mX5_turnerOf) (cz_nm mX5_turnerOf) ∈ cz_T ∧ Cond.code (cz_nm mX5_turnerOf) (cz_cc mX5_turnerOf) (cz_nL mX5_turnerOf) (cz_rt mX5_turnerOf) ∈ cz_T ∧ Cond.methodLink (cz_on 13) 85 (cz_nm mX10_up) ∈ cz_T ∧ Cond.instanceMethod (cz_nm mX10_up) ∈ cz_T ∧ Cond.selects (cz_on 10) (cz_nm mX10_up) (cz_nm mX10_up) ∈ cz_T ∧ Cond.code (cz_nm mX10_up) (cz_cc mX10_up) (cz_nL mX10_up) (cz_rt mX10_up) ∈ cz_T ∧ Cond.methodLink (cz_on 10) 201 (cz_nm mX5_liesUp) ∈ cz_T ∧ Cond.instanceMethod (cz_nm mX5_liesUp) ∈ cz_T ∧ Cond.selects (cz_on 5) (cz_nm mX5_liesUp) (cz_nm mX5_liesUp) ∈ cz_T ∧ Cond.code (cz_nm mX5_liesUp) (cz_cc mX5_liesUp) (cz_nL mX5_liesUp) (cz_rt mX5_liesUp) ∈ cz_T ∧ Cond.methodLink (cz_on 5) 180 (cz_nm mX5_isTurned) ∈ cz_T ∧ Cond.instanceMethod (cz_nm mX5_isTurned) ∈ cz_T ∧ Cond.code (cz_nm mX5_isTurned) (cz_cc mX5_isTurned) (cz_nL mX5_isTurned) (cz_rt mX5_isTurned) ∈ cz_T ∧ Cond.methodLink (cz_on 5) 177 (cz_nm mX5_turnerOf) ∈ cz_T ∧ Cond.methodLink (cz_on 13) 89 (cz_nm mX10_cheese) ∈ cz_T ∧ Cond.instanceMethod (cz_nm mX10_cheese) ∈ cz_T ∧ Cond.selects (cz_on 10) (cz_nm mX10_cheese) (cz_nm mX10_cheese) ∈ cz_T ∧ Cond.code (cz_nm mX10_cheese) (cz_cc mX10_cheese) (cz_nL mX10_cheese) (cz_rt mX10_cheese) ∈ cz_T ∧ Cond.methodLink (cz_on 10) 219 (cz_nm mX5_price) ∈ cz_T ∧ Cond.methodLink (cz_on 13) 93 (cz_nm mX10_vein) ∈ cz_T ∧ Cond.instanceMethod (cz_nm mX10_vein) ∈ cz_T ∧ Cond.selects (cz_on 10) (cz_nm mX10_vein) (cz_nm mX10_vein) ∈ cz_T ∧ Cond.code (cz_nm mX10_vein) (cz_cc mX10_vein) (cz_nL mX10_vein) (cz_rt mX10_vein) ∈ cz_T ∧ Cond.methodLink (cz_on 10) 222 (cz_nm mX10_veinMinute) ∈ cz_T ∧ Cond.instanceMethod (cz_nm mX10_veinMinute) ∈ cz_T ∧ Cond.code (cz_nm mX10_veinMinute) (cz_cc mX10_veinMinute) (cz_nL mX10_veinMinute) (cz_rt mX10_veinMinute) ∈ cz_T ∧ True := bw_okT (gs := [203, 0, 0, 0, 0, 0, 0, 0, 0, 0, 0, 0, 0, 0, 0, 1, 0, 0, 0, 0, 0, 0, 0, 0, 0, 0, 0, 0, 1, 0]) (L := tables_1_4) (ws := [Cond.instanceMethod (cz_nm mX10_isCheese), Cond.code (cz_nm mX10_isCheese) (cz_cc mX10_isCheese) (cz_nL mX10_isCheese) (cz_rt mX10_isCheese), Cond.methodLink (cz_on 10) 198 (cz_nm mX5_turnerOf), Cond.instanceMethod (cz_nm mX5_turnerOf), Cond.selects (cz_on 5) (cz_nm mX5_turnerOf) (cz_nm mX5_turnerOf), Cond.code (cz_nm mX5_turnerOf) (cz_cc mX5_turnerOf) (cz_nL mX5_turnerOf) (cz_rt mX5_turnerOf), Cond.methodLink (cz_on 13) 85 (cz_nm mX10_up), Cond.instanceMethod (cz_nm mX10_up), Cond.selects (cz_on 10) (cz_nm mX10_up) (cz_nm mX10_up), Cond.code (cz_nm mX10_up) (cz_cc mX10_up) (cz_nL mX10_up) (cz_rt mX10_up), Cond.methodLink (cz_on 10) 201 (cz_nm mX5_liesUp), Cond.instanceMethod (cz_nm mX5_liesUp), Cond.selects (cz_on 5) (cz_nm mX5_liesUp) (cz_nm mX5_liesUp), Cond.code (cz_nm mX5_liesUp) (cz_cc mX5_liesUp) (cz_nL mX5_liesUp) (cz_rt mX5_liesUp), Cond.methodLink (cz_on 5) 180 (cz_nm mX5_isTurned), Cond.instanceMethod (cz_nm mX5_isTurned), Cond.code (cz_nm mX5_isTurned) (cz_cc mX5_isTurned) (cz_nL mX5_isTurned) (cz_rt mX5_isTurned), Cond.methodLink (cz_on 5) 177 (cz_nm mX5_turnerOf), Cond.methodLink (cz_on 13) 89 (cz_nm mX10_cheese), Cond.instanceMethod (cz_nm mX10_cheese), Cond.selects (cz_on 10) (cz_nm mX10_cheese) (cz_nm mX10_cheese), Cond.code (cz_nm mX10_cheese) (cz_cc mX10_cheese) (cz_nL mX10_cheese) (cz_rt mX10_cheese), Cond.methodLink (cz_on 10) 219 (cz_nm mX5_price), Cond.methodLink (cz_on 13) 93 (cz_nm mX10_vein), Cond.instanceMethod (cz_nm mX10_vein), Cond.selects (cz_on 10) (cz_nm mX10_vein) (cz_nm mX10_vein), Cond.code (cz_nm mX10_vein) (cz_cc mX10_vein) (cz_nL mX10_vein) (cz_rt mX10_vein), Cond.methodLink (cz_on 10) 222 (cz_nm mX10_veinMinute), Cond.instanceMethod (cz_nm mX10_veinMinute), Cond.code (cz_nm mX10_veinMinute) (cz_cc mX10_veinMinute) (cz_nL mX10_veinMinute) (cz_rt mX10_veinMinute)]) rfl (bw_g bw_s4) (by decide +kernel)
set_option maxRecDepth 20000 in
theorem bq21 : Cond.methodLink (cz_on 10) 371 (cz_nm mX5_minuteOfVein) ∈ cz_T ∧ Cond.instanceMethod (cz_nm mX5_minuteOfVein) ∈ cz_T ∧ Cond.selects (cz_on 5) (cz_nm mX5_minuteOfVein) (cz_nm mX5_minuteOfVein) ∈ cz_T ∧ Cond.code (cz_nm mX5_minuteOfVein) (cz_cc mX5_minuteOfVein) (cz_nL mX5_minuteOfVein) (cz_rt mX5_minuteOfVein) ∈ cz_T ∧ Cond.methodLink (cz_on 13) 97 (cz_nm mX10_cause) ∈ cz_T ∧ True := bw_okT (gs := [235, 0, 0, 0, 0]) (L := tables_1_4) (ws := [Cond.methodLink (cz_on 10) 371 (cz_nm mX5_minuteOfVein), Cond.instanceMethod (cz_nm mX5_minuteOfVein), Cond.selects (cz_on 5) (cz_nm mX5_minuteOfVein) (cz_nm mX5_minuteOfVein), Cond.code (cz_nm mX5_minuteOfVein) (cz_cc mX5_minuteOfVein) (cz_nL mX5_minuteOfVein) (cz_rt mX5_minuteOfVein), Cond.methodLink (cz_on 13) 97 (cz_nm mX10_cause)]) rfl (bw_g bw_s4) (by decide +kernel)
set_option maxRecDepth 20000 in
theorem bq22 : Cond.instanceMethod (cz_nm mX10_cause) ∈ cz_T ∧ Cond.selects (cz_on 10) (cz_nm mX10_cause) (cz_nm mX10_cause) ∈ cz_T ∧ Cond.code (cz_nm mX10_cause) (cz_cc mX10_cause) (cz_nL mX10_cause) (cz_rt mX10_cause) ∈ cz_T ∧ Cond.methodLink (cz_on 10) 225 (cz_nm mX10_eventCount) ∈ cz_T ∧ Cond.instanceMethod (cz_nm mX10_eventCount) ∈ cz_T ∧ Cond.code (cz_nm mX10_eventCount) (cz_cc mX10_eventCount) (cz_nL mX10_eventCount) (cz_rt mX10_eventCount) ∈ cz_T ∧ Cond.methodLink (cz_on 10) 228 (cz_nm mX10_eventFrom) ∈ cz_T ∧ Cond.instanceMethod (cz_nm mX10_eventFrom) ∈ cz_T ∧ Cond.code (cz_nm mX10_eventFrom) (cz_cc mX10_eventFrom) (cz_nL mX10_eventFrom) (cz_rt mX10_eventFrom) ∈ cz_T ∧ Cond.methodLink (cz_on 10) 231 (cz_nm mX10_eventTo) ∈ cz_T ∧ Cond.instanceMethod (cz_nm mX10_eventTo) ∈ cz_T ∧ Cond.code (cz_nm mX10_eventTo) (cz_cc mX10_eventTo) (cz_nL mX10_eventTo) (cz_rt mX10_eventTo) ∈ cz_T ∧ Cond.methodLink (cz_on 13) 101 (cz_nm mX10_total) ∈ cz_T ∧ Cond.instanceMethod (cz_nm mX10_total) ∈ cz_T ∧ Cond.selects (cz_on 10) (cz_nm mX10_total) (cz_nm mX10_total) ∈ cz_T ∧ Cond.code (cz_nm mX10_total) (cz_cc mX10_total) (cz_nL mX10_total) (cz_rt mX10_total) ∈ cz_T ∧ Cond.methodLink (cz_on 13) 105 (cz_nm mX10_without) ∈ cz_T ∧ Cond.instanceMethod (cz_nm mX10_without) ∈ cz_T ∧ Cond.selects (cz_on 10) (cz_nm mX10_without) (cz_nm mX10_without) ∈ cz_T ∧ Cond.code (cz_nm mX10_without) (cz_cc mX10_without) (cz_nL mX10_without) (cz_rt mX10_without) ∈ cz_T ∧ Cond.methodLink (cz_on 10) 234 (cz_nm mX10_isEvent) ∈ cz_T ∧ Cond.instanceMethod (cz_nm mX10_isEvent) ∈ cz_T ∧ Cond.code (cz_nm mX10_isEvent) (cz_cc mX10_isEvent) (cz_nL mX10_isEvent) (cz_rt mX10_isEvent) ∈ cz_T ∧ Cond.methodLink (cz_on 13) 109 (cz_nm mX10_wake) ∈ cz_T ∧ Cond.instanceMethod (cz_nm mX10_wake) ∈ cz_T ∧ Cond.selects (cz_on 10) (cz_nm mX10_wake) (cz_nm mX10_wake) ∈ cz_T ∧ Cond.code (cz_nm mX10_wake) (cz_cc mX10_wake) (cz_nL mX10_wake) (cz_rt mX10_wake) ∈ cz_T ∧ Cond.methodLink (cz_on 10) 241 (cz_nm mX10_bestCalls) ∈ cz_T ∧ Cond.instanceMethod (cz_nm mX10_bestCalls) ∈ cz_T ∧ Cond.code (cz_nm mX10_bestCalls) (cz_cc mX10_bestCalls) (cz_nL mX10_bestCalls) (cz_rt mX10_bestCalls) ∈ cz_T ∧ True := bw_okT (gs := [0, 0, 0, 0, 1, 0, 0, 1, 0, 0, 1, 0, 0, 0, 0, 0, 0, 0, 0, 0, 0, 1, 0, 0, 0, 0, 0, 0, 1, 0]) (L := tables_1_5) (ws := [Cond.instanceMethod (cz_nm mX10_cause), Cond.selects (cz_on 10) (cz_nm mX10_cause) (cz_nm mX10_cause), Cond.code (cz_nm mX10_cause) (cz_cc mX10_cause) (cz_nL mX10_cause) (cz_rt mX10_cause), Cond.methodLink (cz_on 10) 225 (cz_nm mX10_eventCount), Cond.instanceMethod (cz_nm mX10_eventCount), Cond.code (cz_nm mX10_eventCount) (cz_cc mX10_eventCount) (cz_nL mX10_eventCount) (cz_rt mX10_eventCount), Cond.methodLink (cz_on 10) 228 (cz_nm mX10_eventFrom), Cond.instanceMethod (cz_nm mX10_eventFrom), Cond.code (cz_nm mX10_eventFrom) (cz_cc mX10_eventFrom) (cz_nL mX10_eventFrom) (cz_rt mX10_eventFrom), Cond.methodLink (cz_on 10) 231 (cz_nm mX10_eventTo), Cond.instanceMethod (cz_nm mX10_eventTo), Cond.code (cz_nm mX10_eventTo) (cz_cc mX10_eventTo) (cz_nL mX10_eventTo) (cz_rt mX10_eventTo), Cond.methodLink (cz_on 13) 101 (cz_nm mX10_total), Cond.instanceMethod (cz_nm mX10_total), Cond.selects (cz_on 10) (cz_nm mX10_total) (cz_nm mX10_total), Cond.code (cz_nm mX10_total) (cz_cc mX10_total) (cz_nL mX10_total) (cz_rt mX10_total), Cond.methodLink (cz_on 13) 105 (cz_nm mX10_without), Cond.instanceMethod (cz_nm mX10_without), Cond.selects (cz_on 10) (cz_nm mX10_without) (cz_nm mX10_without), Cond.code (cz_nm mX10_without) (cz_cc mX10_without) (cz_nL mX10_without) (cz_rt mX10_without), Cond.methodLink (cz_on 10) 234 (cz_nm mX10_isEvent), Cond.instanceMethod (cz_nm mX10_isEvent), Cond.code (cz_nm mX10_isEvent) (cz_cc mX10_isEvent) (cz_nL mX10_isEvent) (cz_rt mX10_isEvent), Cond.methodLink (cz_on 13) 109 (cz_nm mX10_wake), Cond.instanceMethod (cz_nm mX10_wake), Cond.selects (cz_on 10) (cz_nm mX10_wake) (cz_nm mX10_wake), Cond.code (cz_nm mX10_wake) (cz_cc mX10_wake) (cz_nL mX10_wake) (cz_rt mX10_wake), Cond.methodLink (cz_on 10) 241 (cz_nm mX10_bestCalls), Cond.instanceMethod (cz_nm mX10_bestCalls), Cond.code (cz_nm mX10_bestCalls) (cz_cc mX10_bestCalls) (cz_nL mX10_bestCalls) (cz_rt mX10_bestCalls)]) rfl (bw_g bw_s5) (by decide +kernel)
set_option maxRecDepth 20000 in
theorem bq23 : Cond.methodLink (cz_on 10) 263 (cz_nm mX10_allCalls) ∈ cz_T ∧ Cond.instanceMethod (cz_nm mX10_allCalls) ∈ cz_T ∧ Cond.code (cz_nm mX10_allCalls) (cz_cc mX10_allCalls) (cz_nL mX10_allCalls) (cz_rt mX10_allCalls) ∈ cz_T ∧ Cond.methodLink (cz_on 10) 247 (cz_nm mJ6_bitCount_0f7a4) ∈ cz_T ∧ Cond.static (cz_nm mJ6_bitCount_0f7a4) ∈ cz_T ∧ Cond.code (cz_nm mJ6_bitCount_0f7a4) (cz_cc mJ6_bitCount_0f7a4) (cz_nL mJ6_bitCount_0f7a4) (cz_rt mJ6_bitCount_0f7a4) ∈ cz_T ∧ Cond.constant (cz_on 14) 265 (1431655765) ∈ cz_T ∧ Cond.constant (cz_on 14) 266 (858993459) ∈ cz_T ∧ Cond.constant (cz_on 14) 267 (252645135) ∈ cz_T ∧ Cond.methodLink (cz_on 13) 113 (cz_nm mX10_wakeTotal) ∈ cz_T ∧ Cond.instanceMethod (cz_nm mX10_wakeTotal) ∈ cz_T ∧ Cond.selects (cz_on 10) (cz_nm mX10_wakeTotal) (cz_nm mX10_wakeTotal) ∈ cz_T ∧ Cond.code (cz_nm mX10_wakeTotal) (cz_cc mX10_wakeTotal) (cz_nL mX10_wakeTotal) (cz_rt mX10_wakeTotal) ∈ cz_T ∧ Cond.methodLink (cz_on 13) 117 (cz_nm mX10_fewest) ∈ cz_T ∧ Cond.instanceMethod (cz_nm mX10_fewest) ∈ cz_T ∧ Cond.selects (cz_on 10) (cz_nm mX10_fewest) (cz_nm mX10_fewest) ∈ cz_T ∧ Cond.code (cz_nm mX10_fewest) (cz_cc mX10_fewest) (cz_nL mX10_fewest) (cz_rt mX10_fewest) ∈ cz_T ∧ Cond.methodLink (cz_on 10) 244 (cz_nm mX10_fewestTurners) ∈ cz_T ∧ Cond.instanceMethod (cz_nm mX10_fewestTurners) ∈ cz_T ∧ Cond.code (cz_nm mX10_fewestTurners) (cz_cc mX10_fewestTurners) (cz_nL mX10_fewestTurners) (cz_rt mX10_fewestTurners) ∈ cz_T ∧ Cond.methodLink (cz_on 10) 374 (cz_nm mX5_missesAny) ∈ cz_T ∧ Cond.instanceMethod (cz_nm mX5_missesAny) ∈ cz_T ∧ Cond.selects (cz_on 5) (cz_nm mX5_missesAny) (cz_nm mX5_missesAny) ∈ cz_T ∧ Cond.code (cz_nm mX5_missesAny) (cz_cc mX5_missesAny) (cz_nL mX5_missesAny) (cz_rt mX5_missesAny) ∈ cz_T ∧ Cond.methodLink (cz_on 13) 121 (cz_nm mX10_fewestBy) ∈ cz_T ∧ Cond.instanceMethod (cz_nm mX10_fewestBy) ∈ cz_T ∧ Cond.selects (cz_on 10) (cz_nm mX10_fewestBy) (cz_nm mX10_fewestBy) ∈ cz_T ∧ Cond.code (cz_nm mX10_fewestBy) (cz_cc mX10_fewestBy) (cz_nL mX10_fewestBy) (cz_rt mX10_fewestBy) ∈ cz_T ∧ Cond.methodLink (cz_on 13) 125 (cz_nm mX10_fits) ∈ cz_T ∧ Cond.instanceMethod (cz_nm mX10_fits) ∈ cz_T ∧ True := bw_okT (gs := [35, 1, 0, 0, 0, 0, 0, 0, 0, 0, 0, 0, 0, 0, 0, 0, 0, 0, 1, 0, 0, 0, 0, 0, 0, 0, 0, 0, 0, 0]) (L := tables_1_5) (ws := [Cond.methodLink (cz_on 10) 263 (cz_nm mX10_allCalls), Cond.instanceMethod (cz_nm mX10_allCalls), Cond.code (cz_nm mX10_allCalls) (cz_cc mX10_allCalls) (cz_nL mX10_allCalls) (cz_rt mX10_allCalls), Cond.methodLink (cz_on 10) 247 (cz_nm mJ6_bitCount_0f7a4), Cond.static (cz_nm mJ6_bitCount_0f7a4), Cond.code (cz_nm mJ6_bitCount_0f7a4) (cz_cc mJ6_bitCount_0f7a4) (cz_nL mJ6_bitCount_0f7a4) (cz_rt mJ6_bitCount_0f7a4), Cond.constant (cz_on 14) 265 (1431655765), Cond.constant (cz_on 14) 266 (858993459), Cond.constant (cz_on 14) 267 (252645135), Cond.methodLink (cz_on 13) 113 (cz_nm mX10_wakeTotal), Cond.instanceMethod (cz_nm mX10_wakeTotal), Cond.selects (cz_on 10) (cz_nm mX10_wakeTotal) (cz_nm mX10_wakeTotal), Cond.code (cz_nm mX10_wakeTotal) (cz_cc mX10_wakeTotal) (cz_nL mX10_wakeTotal) (cz_rt mX10_wakeTotal), Cond.methodLink (cz_on 13) 117 (cz_nm mX10_fewest), Cond.instanceMethod (cz_nm mX10_fewest), Cond.selects (cz_on 10) (cz_nm mX10_fewest) (cz_nm mX10_fewest), Cond.code (cz_nm mX10_fewest) (cz_cc mX10_fewest) (cz_nL mX10_fewest) (cz_rt mX10_fewest), Cond.methodLink (cz_on 10) 244 (cz_nm mX10_fewestTurners), Cond.instanceMethod (cz_nm mX10_fewestTurners), Cond.code (cz_nm mX10_fewestTurners) (cz_cc mX10_fewestTurners) (cz_nL mX10_fewestTurners) (cz_rt mX10_fewestTurners), Cond.methodLink (cz_on 10) 374 (cz_nm mX5_missesAny), Cond.instanceMethod (cz_nm mX5_missesAny), Cond.selects (cz_on 5) (cz_nm mX5_missesAny) (cz_nm mX5_missesAny), Cond.code (cz_nm mX5_missesAny) (cz_cc mX5_missesAny) (cz_nL mX5_missesAny) (cz_rt mX5_missesAny), Cond.methodLink (cz_on 13) 121 (cz_nm mX10_fewestBy), Cond.instanceMethod (cz_nm mX10_fewestBy), Cond.selects (cz_on 10) (cz_nm mX10_fewestBy) (cz_nm mX10_fewestBy), Cond.code (cz_nm mX10_fewestBy) (cz_cc mX10_fewestBy) (cz_nL mX10_fewestBy) (cz_rt mX10_fewestBy), Cond.methodLink (cz_on 13) 125 (cz_nm mX10_fits), Cond.instanceMethod (cz_nm mX10_fits)]) rfl (bw_g bw_s5) (by decide +kernel)
set_option maxRecDepth 20000 in
theorem bq24 : Cond.selects (cz_on 10) (cz_nm mX10_fits) (cz_nm mX10_fits) ∈ cz_T ∧ Cond.code (cz_nm mX10_fits) (cz_cc mX10_fits) (cz_nL mX10_fits) (cz_rt mX10_fits) ∈ cz_T ∧ Cond.methodLink (cz_on 10) 252 (cz_nm mX10_isSlice) ∈ cz_T ∧ Cond.instanceMethod (cz_nm mX10_isSlice) ∈ cz_T ∧ Cond.code (cz_nm mX10_isSlice) (cz_cc mX10_isSlice) (cz_nL mX10_isSlice) (cz_rt mX10_isSlice) ∈ cz_T ∧ Cond.methodLink (cz_on 10) 259 (cz_nm mX5_cheesesWithVeins) ∈ cz_T ∧ Cond.instanceMethod (cz_nm mX5_cheesesWithVeins) ∈ cz_T ∧ Cond.selects (cz_on 5) (cz_nm mX5_cheesesWithVeins) (cz_nm mX5_cheesesWithVeins) ∈ cz_T ∧ Cond.code (cz_nm mX5_cheesesWithVeins) (cz_cc mX5_cheesesWithVeins) (cz_nL mX5_cheesesWithVeins) (cz_rt mX5_cheesesWithVeins) ∈ cz_T ∧ Cond.methodLink (cz_on 5) 183 (cz_nm mX5_hasJustVeins) ∈ cz_T ∧ Cond.instanceMethod (cz_nm mX5_hasJustVeins) ∈ cz_T ∧ Cond.code (cz_nm mX5_hasJustVeins) (cz_cc mX5_hasJustVeins) (cz_nL mX5_hasJustVeins) (cz_rt mX5_hasJustVeins) ∈ cz_T ∧ Cond.methodLink (cz_on 13) 129 (cz_nm mX10_by) ∈ cz_T ∧ Cond.instanceMethod (cz_nm mX10_by) ∈ cz_T ∧ Cond.selects (cz_on 10) (cz_nm mX10_by) (cz_nm mX10_by) ∈ cz_T ∧ Cond.code (cz_nm mX10_by) (cz_cc mX10_by) (cz_nL mX10_by) (cz_rt mX10_by) ∈ cz_T ∧ Cond.methodLink (cz_on 13) 133 (cz_nm mX10_nights) ∈ cz_T ∧ Cond.instanceMethod (cz_nm mX10_nights) ∈ cz_T ∧ Cond.selects (cz_on 10) (cz_nm mX10_nights) (cz_nm mX10_nights) ∈ cz_T ∧ Cond.code (cz_nm mX10_nights) (cz_cc mX10_nights) (cz_nL mX10_nights) (cz_rt mX10_nights) ∈ cz_T ∧ Cond.methodLink (cz_on 10) 266 (cz_nm mX10_isSeed) ∈ cz_T ∧ Cond.static (cz_nm mX10_isSeed) ∈ cz_T ∧ Cond.code (cz_nm mX10_isSeed) (cz_cc mX10_isSeed) (cz_nL mX10_isSeed) (cz_rt mX10_isSeed) ∈ cz_T ∧ Cond.constant (cz_on 10) 357 (65537) ∈ cz_T ∧ Cond.methodLink (cz_on 10) 275 (cz_nm mX3_addDrawn) ∈ cz_T ∧ Cond.instanceMethod (cz_nm mX3_addDrawn) ∈ cz_T ∧ Cond.selects (cz_on 3) (cz_nm mX3_addDrawn) (cz_nm mX3_addDrawn) ∈ cz_T ∧ Cond.code (cz_nm mX3_addDrawn) (cz_cc mX3_addDrawn) (cz_nL mX3_addDrawn) (cz_rt mX3_addDrawn) ∈ cz_T ∧ Cond.methodLink (cz_on 3) 28 (cz_nm mX3_drawBelow) ∈ cz_T ∧ Cond.instanceMethod (cz_nm mX3_drawBelow) ∈ cz_T ∧ True := bw_okT (gs := [67, 0, 0, 1, 0, 0, 0, 0, 0, 0, 1, 0, 0, 0, 0, 0, 0, 0, 0, 0, 0, 0, 0, 0, 0, 0, 0, 0, 0, 1]) (L := tables_1_5) (ws := [Cond.selects (cz_on 10) (cz_nm mX10_fits) (cz_nm mX10_fits), Cond.code (cz_nm mX10_fits) (cz_cc mX10_fits) (cz_nL mX10_fits) (cz_rt mX10_fits), Cond.methodLink (cz_on 10) 252 (cz_nm mX10_isSlice), Cond.instanceMethod (cz_nm mX10_isSlice), Cond.code (cz_nm mX10_isSlice) (cz_cc mX10_isSlice) (cz_nL mX10_isSlice) (cz_rt mX10_isSlice), Cond.methodLink (cz_on 10) 259 (cz_nm mX5_cheesesWithVeins), Cond.instanceMethod (cz_nm mX5_cheesesWithVeins), Cond.selects (cz_on 5) (cz_nm mX5_cheesesWithVeins) (cz_nm mX5_cheesesWithVeins), Cond.code (cz_nm mX5_cheesesWithVeins) (cz_cc mX5_cheesesWithVeins) (cz_nL mX5_cheesesWithVeins) (cz_rt mX5_cheesesWithVeins), Cond.methodLink (cz_on 5) 183 (cz_nm mX5_hasJustVeins), Cond.instanceMethod (cz_nm mX5_hasJustVeins), Cond.code (cz_nm mX5_hasJustVeins) (cz_cc mX5_hasJustVeins) (cz_nL mX5_hasJustVeins) (cz_rt mX5_hasJustVeins), Cond.methodLink (cz_on 13) 129 (cz_nm mX10_by), Cond.instanceMethod (cz_nm mX10_by), Cond.selects (cz_on 10) (cz_nm mX10_by) (cz_nm mX10_by), Cond.code (cz_nm mX10_by) (cz_cc mX10_by) (cz_nL mX10_by) (cz_rt mX10_by), Cond.methodLink (cz_on 13) 133 (cz_nm mX10_nights), Cond.instanceMethod (cz_nm mX10_nights), Cond.selects (cz_on 10) (cz_nm mX10_nights) (cz_nm mX10_nights), Cond.code (cz_nm mX10_nights) (cz_cc mX10_nights) (cz_nL mX10_nights) (cz_rt mX10_nights), Cond.methodLink (cz_on 10) 266 (cz_nm mX10_isSeed), Cond.static (cz_nm mX10_isSeed), Cond.code (cz_nm mX10_isSeed) (cz_cc mX10_isSeed) (cz_nL mX10_isSeed) (cz_rt mX10_isSeed), Cond.constant (cz_on 10) 357 (65537), Cond.methodLink (cz_on 10) 275 (cz_nm mX3_addDrawn), Cond.instanceMethod (cz_nm mX3_addDrawn), Cond.selects (cz_on 3) (cz_nm mX3_addDrawn) (cz_nm mX3_addDrawn), Cond.code (cz_nm mX3_addDrawn) (cz_cc mX3_addDrawn) (cz_nL mX3_addDrawn) (cz_rt mX3_addDrawn), Cond.methodLink (cz_on 3) 28 (cz_nm mX3_drawBelow), Cond.instanceMethod (cz_nm mX3_drawBelow)]) rfl (bw_g bw_s5) (by decide +kernel)
set_option maxRecDepth 20000 in
theorem bq25 : Cond.code (cz_nm mX3_drawBelow) (cz_cc mX3_drawBelow) (cz_nL mX3_drawBelow) (cz_rt mX3_drawBelow) ∈ cz_T ∧ Cond.constant (cz_on 3) 42 (65537) ∈ cz_T ∧ Cond.methodLink (cz_on 3) 32 (cz_nm mJ9_min_7cf53) ∈ cz_T ∧ Cond.static (cz_nm mJ9_min_7cf53) ∈ cz_T ∧ Cond.code (cz_nm mJ9_min_7cf53) (cz_cc mJ9_min_7cf53) (cz_nL mJ9_min_7cf53) (cz_rt mJ9_min_7cf53) ∈ cz_T ∧ Cond.methodLink (cz_on 3) 38 (cz_nm mX3_add) ∈ cz_T ∧ Cond.instanceMethod (cz_nm mX3_add) ∈ cz_T ∧ Cond.selects (cz_on 3) (cz_nm mX3_add) (cz_nm mX3_add) ∈ cz_T ∧ Cond.code (cz_nm mX3_add) (cz_cc mX3_add) (cz_nL mX3_add) (cz_rt mX3_add) ∈ cz_T ∧ Cond.methodLink (cz_on 13) 137 (cz_nm mX10_call) ∈ cz_T ∧ Cond.instanceMethod (cz_nm mX10_call) ∈ cz_T ∧ Cond.selects (cz_on 10) (cz_nm mX10_call) (cz_nm mX10_call) ∈ cz_T ∧ Cond.code (cz_nm mX10_call) (cz_cc mX10_call) (cz_nL mX10_call) (cz_rt mX10_call) ∈ cz_T ∧ Cond.methodLink (cz_on 10) 281 (cz_nm mX10_refusedAct) ∈ cz_T ∧ Cond.instanceMethod (cz_nm mX10_refusedAct) ∈ cz_T ∧ Cond.code (cz_nm mX10_refusedAct) (cz_cc mX10_refusedAct) (cz_nL mX10_refusedAct) (cz_rt mX10_refusedAct) ∈ cz_T ∧ Cond.methodLink (cz_on 10) 284 (cz_nm mX6_keepAct) ∈ cz_T ∧ Cond.instanceMethod (cz_nm mX6_keepAct) ∈ cz_T ∧ Cond.selects (cz_on 6) (cz_nm mX6_keepAct) (cz_nm mX6_keepAct) ∈ cz_T ∧ Cond.code (cz_nm mX6_keepAct) (cz_cc mX6_keepAct) (cz_nL mX6_keepAct) (cz_rt mX6_keepAct) ∈ cz_T ∧ Cond.methodLink (cz_on 6) 28 (cz_nm mX6_dropOldestAct) ∈ cz_T ∧ Cond.instanceMethod (cz_nm mX6_dropOldestAct) ∈ cz_T ∧ Cond.code (cz_nm mX6_dropOldestAct) (cz_cc mX6_dropOldestAct) (cz_nL mX6_dropOldestAct) (cz_rt mX6_dropOldestAct) ∈ cz_T ∧ Cond.methodLink (cz_on 6) 31 (cz_nm mX3_become) ∈ cz_T ∧ Cond.instanceMethod (cz_nm mX3_become) ∈ cz_T ∧ Cond.selects (cz_on 3) (cz_nm mX3_become) (cz_nm mX3_become) ∈ cz_T ∧ Cond.code (cz_nm mX3_become) (cz_cc mX3_become) (cz_nL mX3_become) (cz_rt mX3_become) ∈ cz_T ∧ Cond.methodLink (cz_on 10) 291 (cz_nm mX10_allowed) ∈ cz_T ∧ Cond.instanceMethod (cz_nm mX10_allowed) ∈ cz_T ∧ Cond.code (cz_nm mX10_allowed) (cz_cc mX10_allowed) (cz_nL mX10_allowed) (cz_rt mX10_allowed) ∈ cz_T ∧ True := bw_okT (gs := [100, 0, 0, 0, 0, 0, 0, 0, 0, 0, 0, 0, 0, 0, 1, 0, 0, 0, 0, 0, 0, 1, 0, 0, 0, 0, 0, 0, 1, 0]) (L := tables_1_5) (ws := [Cond.code (cz_nm mX3_drawBelow) (cz_cc mX3_drawBelow) (cz_nL mX3_drawBelow) (cz_rt mX3_drawBelow), Cond.constant (cz_on 3) 42 (65537), Cond.methodLink (cz_on 3) 32 (cz_nm mJ9_min_7cf53), Cond.static (cz_nm mJ9_min_7cf53), Cond.code (cz_nm mJ9_min_7cf53) (cz_cc mJ9_min_7cf53) (cz_nL mJ9_min_7cf53) (cz_rt mJ9_min_7cf53), Cond.methodLink (cz_on 3) 38 (cz_nm mX3_add), Cond.instanceMethod (cz_nm mX3_add), Cond.selects (cz_on 3) (cz_nm mX3_add) (cz_nm mX3_add), Cond.code (cz_nm mX3_add) (cz_cc mX3_add) (cz_nL mX3_add) (cz_rt mX3_add), Cond.methodLink (cz_on 13) 137 (cz_nm mX10_call), Cond.instanceMethod (cz_nm mX10_call), Cond.selects (cz_on 10) (cz_nm mX10_call) (cz_nm mX10_call), Cond.code (cz_nm mX10_call) (cz_cc mX10_call) (cz_nL mX10_call) (cz_rt mX10_call), Cond.methodLink (cz_on 10) 281 (cz_nm mX10_refusedAct), Cond.instanceMethod (cz_nm mX10_refusedAct), Cond.code (cz_nm mX10_refusedAct) (cz_cc mX10_refusedAct) (cz_nL mX10_refusedAct) (cz_rt mX10_refusedAct), Cond.methodLink (cz_on 10) 284 (cz_nm mX6_keepAct), Cond.instanceMethod (cz_nm mX6_keepAct), Cond.selects (cz_on 6) (cz_nm mX6_keepAct) (cz_nm mX6_keepAct), Cond.code (cz_nm mX6_keepAct) (cz_cc mX6_keepAct) (cz_nL mX6_keepAct) (cz_rt mX6_keepAct), Cond.methodLink (cz_on 6) 28 (cz_nm mX6_dropOldestAct), Cond.instanceMethod (cz_nm mX6_dropOldestAct), Cond.code (cz_nm mX6_dropOldestAct) (cz_cc mX6_dropOldestAct) (cz_nL mX6_dropOldestAct) (cz_rt mX6_dropOldestAct), Cond.methodLink (cz_on 6) 31 (cz_nm mX3_become), Cond.instanceMethod (cz_nm mX3_become), Cond.selects (cz_on 3) (cz_nm mX3_become) (cz_nm mX3_become), Cond.code (cz_nm mX3_become) (cz_cc mX3_become) (cz_nL mX3_become) (cz_rt mX3_become), Cond.methodLink (cz_on 10) 291 (cz_nm mX10_allowed), Cond.instanceMethod (cz_nm mX10_allowed), Cond.code (cz_nm mX10_allowed) (cz_cc mX10_allowed) (cz_nL mX10_allowed) (cz_rt mX10_allowed)]) rfl (bw_g bw_s5) (by decide +kernel)
set_option maxRecDepth 20000 in
theorem bq26 : Cond.methodLink (cz_on 13) 142 (cz_nm mX10_calls) ∈ cz_T ∧ Cond.instanceMethod (cz_nm mX10_calls) ∈ cz_T ∧ Cond.selects (cz_on 10) (cz_nm mX10_calls) (cz_nm mX10_calls) ∈ cz_T ∧ Cond.code (cz_nm mX10_calls) (cz_cc mX10_calls) (cz_nL mX10_calls) (cz_rt mX10_calls) ∈ cz_T ∧ Cond.methodLink (cz_on 13) 146 (cz_nm mX10_cloud) ∈ cz_T ∧ Cond.instanceMethod (cz_nm mX10_cloud) ∈ cz_T ∧ Cond.selects (cz_on 10) (cz_nm mX10_cloud) (cz_nm mX10_cloud) ∈ cz_T ∧ Cond.code (cz_nm mX10_cloud) (cz_cc mX10_cloud) (cz_nL mX10_cloud) (cz_rt mX10_cloud) ∈ cz_T ∧ Cond.methodLink (cz_on 10) 295 (cz_nm mX3_add) ∈ cz_T ∧ Cond.methodLink (cz_on 13) 151 (cz_nm mX10_draw) ∈ cz_T ∧ Cond.instanceMethod (cz_nm mX10_draw) ∈ cz_T ∧ Cond.selects (cz_on 10) (cz_nm mX10_draw) (cz_nm mX10_draw) ∈ cz_T ∧ Cond.code (cz_nm mX10_draw) (cz_cc mX10_draw) (cz_nL mX10_draw) (cz_rt mX10_draw) ∈ cz_T ∧ Cond.methodLink (cz_on 13) 155 (cz_nm mX10_lift) ∈ cz_T ∧ Cond.instanceMethod (cz_nm mX10_lift) ∈ cz_T ∧ Cond.selects (cz_on 10) (cz_nm mX10_lift) (cz_nm mX10_lift) ∈ cz_T ∧ Cond.code (cz_nm mX10_lift) (cz_cc mX10_lift) (cz_nL mX10_lift) (cz_rt mX10_lift) ∈ cz_T ∧ Cond.methodLink (cz_on 13) 160 (cz_nm mX10_seed) ∈ cz_T ∧ Cond.instanceMethod (cz_nm mX10_seed) ∈ cz_T ∧ Cond.selects (cz_on 10) (cz_nm mX10_seed) (cz_nm mX10_seed) ∈ cz_T ∧ Cond.code (cz_nm mX10_seed) (cz_cc mX10_seed) (cz_nL mX10_seed) (cz_rt mX10_seed) ∈ cz_T ∧ Cond.methodLink (cz_on 13) 165 (cz_nm mX10_undo) ∈ cz_T ∧ Cond.instanceMethod (cz_nm mX10_undo) ∈ cz_T ∧ Cond.selects (cz_on 10) (cz_nm mX10_undo) (cz_nm mX10_undo) ∈ cz_T ∧ Cond.code (cz_nm mX10_undo) (cz_cc mX10_undo) (cz_nL mX10_undo) (cz_rt mX10_undo) ∈ cz_T ∧ Cond.methodLink (cz_on 10) 299 (cz_nm mX6_takeBack) ∈ cz_T ∧ Cond.instanceMethod (cz_nm mX6_takeBack) ∈ cz_T ∧ Cond.selects (cz_on 6) (cz_nm mX6_takeBack) (cz_nm mX6_takeBack) ∈ cz_T ∧ Cond.code (cz_nm mX6_takeBack) (cz_cc mX6_takeBack) (cz_nL mX6_takeBack) (cz_rt mX6_takeBack) ∈ cz_T ∧ Cond.methodLink (cz_on 13) 169 (cz_nm mX10_mark) ∈ cz_T ∧ True := bw_okT (gs := [133, 0, 0, 0, 0, 0, 0, 0, 0, 0, 0, 0, 0, 0, 0, 0, 0, 0, 0, 0, 0, 0, 0, 0, 0, 0, 0, 0, 0, 0]) (L := tables_1_5) (ws := [Cond.methodLink (cz_on 13) 142 (cz_nm mX10_calls), Cond.instanceMethod (cz_nm mX10_calls), Cond.selects (cz_on 10) (cz_nm mX10_calls) (cz_nm mX10_calls), Cond.code (cz_nm mX10_calls) (cz_cc mX10_calls) (cz_nL mX10_calls) (cz_rt mX10_calls), Cond.methodLink (cz_on 13) 146 (cz_nm mX10_cloud), Cond.instanceMethod (cz_nm mX10_cloud), Cond.selects (cz_on 10) (cz_nm mX10_cloud) (cz_nm mX10_cloud), Cond.code (cz_nm mX10_cloud) (cz_cc mX10_cloud) (cz_nL mX10_cloud) (cz_rt mX10_cloud), Cond.methodLink (cz_on 10) 295 (cz_nm mX3_add), Cond.methodLink (cz_on 13) 151 (cz_nm mX10_draw), Cond.instanceMethod (cz_nm mX10_draw), Cond.selects (cz_on 10) (cz_nm mX10_draw) (cz_nm mX10_draw), Cond.code (cz_nm mX10_draw) (cz_cc mX10_draw) (cz_nL mX10_draw) (cz_rt mX10_draw), Cond.methodLink (cz_on 13) 155 (cz_nm mX10_lift), Cond.instanceMethod (cz_nm mX10_lift), Cond.selects (cz_on 10) (cz_nm mX10_lift) (cz_nm mX10_lift), Cond.code (cz_nm mX10_lift) (cz_cc mX10_lift) (cz_nL mX10_lift) (cz_rt mX10_lift), Cond.methodLink (cz_on 13) 160 (cz_nm mX10_seed), Cond.instanceMethod (cz_nm mX10_seed), Cond.selects (cz_on 10) (cz_nm mX10_seed) (cz_nm mX10_seed), Cond.code (cz_nm mX10_seed) (cz_cc mX10_seed) (cz_nL mX10_seed) (cz_rt mX10_seed), Cond.methodLink (cz_on 13) 165 (cz_nm mX10_undo), Cond.instanceMethod (cz_nm mX10_undo), Cond.selects (cz_on 10) (cz_nm mX10_undo) (cz_nm mX10_undo), Cond.code (cz_nm mX10_undo) (cz_cc mX10_undo) (cz_nL mX10_undo) (cz_rt mX10_undo), Cond.methodLink (cz_on 10) 299 (cz_nm mX6_takeBack), Cond.instanceMethod (cz_nm mX6_takeBack), Cond.selects (cz_on 6) (cz_nm mX6_takeBack) (cz_nm mX6_takeBack), Cond.code (cz_nm mX6_takeBack) (cz_cc mX6_takeBack) (cz_nL mX6_takeBack) (cz_rt mX6_takeBack), Cond.methodLink (cz_on 13) 169 (cz_nm mX10_mark)]) rfl (bw_g bw_s5) (by decide +kernel)
set_option maxRecDepth 20000 in
theorem bq27 : Cond.instanceMethod (cz_nm mX10_mark) ∈ cz_T ∧ Cond.selects (cz_on 10) (cz_nm mX10_mark) (cz_nm mX10_mark) ∈ cz_T ∧ Cond.code (cz_nm mX10_mark) (cz_cc mX10_mark) (cz_nL mX10_mark) (cz_rt mX10_mark) ∈ cz_T ∧ Cond.methodLink (cz_on 10) 303 (cz_nm mX6_keepMark) ∈ cz_T ∧ Cond.instanceMethod (cz_nm mX6_keepMark) ∈ cz_T ∧ Cond.selects (cz_on 6) (cz_nm mX6_keepMark) (cz_nm mX6_keepMark) ∈ cz_T ∧ Cond.code (cz_nm mX6_keepMark) (cz_cc mX6_keepMark) (cz_nL mX6_keepMark) (cz_rt mX6_keepMark) ∈ cz_T ∧ Cond.methodLink (cz_on 13) 173 (cz_nm mX10_back) ∈ cz_T ∧ Cond.instanceMethod (cz_nm mX10_back) ∈ cz_T ∧ Cond.selects (cz_on 10) (cz_nm mX10_back) (cz_nm mX10_back) ∈ cz_T ∧ Cond.code (cz_nm mX10_back) (cz_cc mX10_back) (cz_nL mX10_back) (cz_rt mX10_back) ∈ cz_T ∧ Cond.methodLink (cz_on 10) 307 (cz_nm mX6_goBack) ∈ cz_T ∧ Cond.instanceMethod (cz_nm mX6_goBack) ∈ cz_T ∧ Cond.selects (cz_on 6) (cz_nm mX6_goBack) (cz_nm mX6_goBack) ∈ cz_T ∧ Cond.code (cz_nm mX6_goBack) (cz_cc mX6_goBack) (cz_nL mX6_goBack) (cz_rt mX6_goBack) ∈ cz_T ∧ Cond.methodLink (cz_on 13) 177 (cz_nm mX10_event) ∈ cz_T ∧ Cond.instanceMethod (cz_nm mX10_event) ∈ cz_T ∧ Cond.selects (cz_on 10) (cz_nm mX10_event) (cz_nm mX10_event) ∈ cz_T ∧ Cond.code (cz_nm mX10_event) (cz_cc mX10_event) (cz_nL mX10_event) (cz_rt mX10_event) ∈ cz_T ∧ Cond.methodLink (cz_on 13) 187 (cz_nm mX10_size) ∈ cz_T ∧ Cond.instanceMethod (cz_nm mX10_size) ∈ cz_T ∧ Cond.selects (cz_on 10) (cz_nm mX10_size) (cz_nm mX10_size) ∈ cz_T ∧ Cond.code (cz_nm mX10_size) (cz_cc mX10_size) (cz_nL mX10_size) (cz_rt mX10_size) ∈ cz_T ∧ Cond.methodLink (cz_on 13) 191 (cz_nm mX10_trouble) ∈ cz_T ∧ Cond.instanceMethod (cz_nm mX10_trouble) ∈ cz_T ∧ Cond.selects (cz_on 10) (cz_nm mX10_trouble) (cz_nm mX10_trouble) ∈ cz_T ∧ Cond.code (cz_nm mX10_trouble) (cz_cc mX10_trouble) (cz_nL mX10_trouble) (cz_rt mX10_trouble) ∈ cz_T ∧ Cond.methodLink (cz_on 13) 7 (cz_nm mX10_led) ∈ cz_T ∧ Cond.instanceMethod (cz_nm mX10_led) ∈ cz_T ∧ Cond.selects (cz_on 10) (cz_nm mX10_led) (cz_nm mX10_led) ∈ cz_T ∧ True := bw_okT (gs := [163, 0, 0, 0, 0, 0, 0, 0, 0, 0, 0, 0, 0, 0, 0, 0, 0, 0, 0, 0, 0, 0, 0, 0, 0, 0, 0, 4, 0, 0]) (L := tables_1_5) (ws := [Cond.instanceMethod (cz_nm mX10_mark), Cond.selects (cz_on 10) (cz_nm mX10_mark) (cz_nm mX10_mark), Cond.code (cz_nm mX10_mark) (cz_cc mX10_mark) (cz_nL mX10_mark) (cz_rt mX10_mark), Cond.methodLink (cz_on 10) 303 (cz_nm mX6_keepMark), Cond.instanceMethod (cz_nm mX6_keepMark), Cond.selects (cz_on 6) (cz_nm mX6_keepMark) (cz_nm mX6_keepMark), Cond.code (cz_nm mX6_keepMark) (cz_cc mX6_keepMark) (cz_nL mX6_keepMark) (cz_rt mX6_keepMark), Cond.methodLink (cz_on 13) 173 (cz_nm mX10_back), Cond.instanceMethod (cz_nm mX10_back), Cond.selects (cz_on 10) (cz_nm mX10_back) (cz_nm mX10_back), Cond.code (cz_nm mX10_back) (cz_cc mX10_back) (cz_nL mX10_back) (cz_rt mX10_back), Cond.methodLink (cz_on 10) 307 (cz_nm mX6_goBack), Cond.instanceMethod (cz_nm mX6_goBack), Cond.selects (cz_on 6) (cz_nm mX6_goBack) (cz_nm mX6_goBack), Cond.code (cz_nm mX6_goBack) (cz_cc mX6_goBack) (cz_nL mX6_goBack) (cz_rt mX6_goBack), Cond.methodLink (cz_on 13) 177 (cz_nm mX10_event), Cond.instanceMethod (cz_nm mX10_event), Cond.selects (cz_on 10) (cz_nm mX10_event) (cz_nm mX10_event), Cond.code (cz_nm mX10_event) (cz_cc mX10_event) (cz_nL mX10_event) (cz_rt mX10_event), Cond.methodLink (cz_on 13) 187 (cz_nm mX10_size), Cond.instanceMethod (cz_nm mX10_size), Cond.selects (cz_on 10) (cz_nm mX10_size) (cz_nm mX10_size), Cond.code (cz_nm mX10_size) (cz_cc mX10_size) (cz_nL mX10_size) (cz_rt mX10_size), Cond.methodLink (cz_on 13) 191 (cz_nm mX10_trouble), Cond.instanceMethod (cz_nm mX10_trouble), Cond.selects (cz_on 10) (cz_nm mX10_trouble) (cz_nm mX10_trouble), Cond.code (cz_nm mX10_trouble) (cz_cc mX10_trouble) (cz_nL mX10_trouble) (cz_rt mX10_trouble), Cond.methodLink (cz_on 13) 7 (cz_nm mX10_led), Cond.instanceMethod (cz_nm mX10_led), Cond.selects (cz_on 10) (cz_nm mX10_led) (cz_nm mX10_led)]) rfl (bw_g bw_s5) (by decide +kernel)
set_option maxRecDepth 20000 in
theorem bq28 : Cond.code (cz_nm mX10_led) (cz_cc mX10_led) (cz_nL mX10_led) (cz_rt mX10_led) ∈ cz_T ∧ True := bw_okT (gs := [197]) (L := tables_1_5) (ws := [Cond.code (cz_nm mX10_led) (cz_cc mX10_led) (cz_nL mX10_led) (cz_rt mX10_led)]) rfl (bw_g bw_s5) (by decide +kernel)
set_option maxRecDepth 20000 in
theorem bq29 : Cond.classLink (cz_on 13) 16 (cz_on 12) ∈ cz_T ∧ Cond.instantiable (cz_on 12) (cz_nf 12) ∈ cz_T ∧ Cond.methodLink (cz_on 13) 18 (cz_nm mX12_init) ∈ cz_T ∧ Cond.instanceMethod (cz_nm mX12_init) ∈ cz_T ∧ Cond.code (cz_nm mX12_init) (cz_cc mX12_init) (cz_nL mX12_init) (cz_rt mX12_init) ∈ cz_T ∧ Cond.methodLink (cz_on 12) 3 objectInit ∈ cz_T ∧ Cond.methodLink (cz_on 13) 23 (cz_nm mX12_feed) ∈ cz_T ∧ Cond.instanceMethod (cz_nm mX12_feed) ∈ cz_T ∧ Cond.selects (cz_on 12) (cz_nm mX12_feed) (cz_nm mX12_feed) ∈ cz_T ∧ Cond.code (cz_nm mX12_feed) (cz_cc mX12_feed) (cz_nL mX12_feed) (cz_rt mX12_feed) ∈ cz_T ∧ Cond.methodLink (cz_on 13) 27 (cz_nm mX12_alp) ∈ cz_T ∧ Cond.instanceMethod (cz_nm mX12_alp) ∈ cz_T ∧ Cond.selects (cz_on 12) (cz_nm mX12_alp) (cz_nm mX12_alp) ∈ cz_T ∧ Cond.code (cz_nm mX12_alp) (cz_cc mX12_alp) (cz_nL mX12_alp) (cz_rt mX12_alp) ∈ cz_T ∧ Cond.methodLink (cz_on 12) 76 (cz_nm mX12_refused) ∈ cz_T ∧ Cond.instanceMethod (cz_nm mX12_refused) ∈ cz_T ∧ Cond.code (cz_nm mX12_refused) (cz_cc mX12_refused) (cz_nL mX12_refused) (cz_rt mX12_refused) ∈ cz_T ∧ Cond.classLink (cz_on 12) 193 (cz_on 11) ∈ cz_T ∧ Cond.instantiable (cz_on 11) (cz_nf 11) ∈ cz_T ∧ Cond.instanceMethod (cz_nm mX11_init) ∈ cz_T ∧ Cond.code (cz_nm mX11_init) (cz_cc mX11_init) (cz_nL mX11_init) (cz_rt mX11_init) ∈ cz_T ∧ Cond.methodLink (cz_on 11) 3 objectInit ∈ cz_T ∧ True := bw_okT (gs := [23, 0, 0, 0, 0, 0, 109, 0, 0, 0, 0, 0, 0, 0, 0, 1, 0, 0, 0, 1, 0, 0]) (L := tables_1_6) (ws := [Cond.classLink (cz_on 13) 16 (cz_on 12), Cond.instantiable (cz_on 12) (cz_nf 12), Cond.methodLink (cz_on 13) 18 (cz_nm mX12_init), Cond.instanceMethod (cz_nm mX12_init), Cond.code (cz_nm mX12_init) (cz_cc mX12_init) (cz_nL mX12_init) (cz_rt mX12_init), Cond.methodLink (cz_on 12) 3 objectInit, Cond.methodLink (cz_on 13) 23 (cz_nm mX12_feed), Cond.instanceMethod (cz_nm mX12_feed), Cond.selects (cz_on 12) (cz_nm mX12_feed) (cz_nm mX12_feed), Cond.code (cz_nm mX12_feed) (cz_cc mX12_feed) (cz_nL mX12_feed) (cz_rt mX12_feed), Cond.methodLink (cz_on 13) 27 (cz_nm mX12_alp), Cond.instanceMethod (cz_nm mX12_alp), Cond.selects (cz_on 12) (cz_nm mX12_alp) (cz_nm mX12_alp), Cond.code (cz_nm mX12_alp) (cz_cc mX12_alp) (cz_nL mX12_alp) (cz_rt mX12_alp), Cond.methodLink (cz_on 12) 76 (cz_nm mX12_refused), Cond.instanceMethod (cz_nm mX12_refused), Cond.code (cz_nm mX12_refused) (cz_cc mX12_refused) (cz_nL mX12_refused) (cz_rt mX12_refused), Cond.classLink (cz_on 12) 193 (cz_on 11), Cond.instantiable (cz_on 11) (cz_nf 11), Cond.instanceMethod (cz_nm mX11_init), Cond.code (cz_nm mX11_init) (cz_cc mX11_init) (cz_nL mX11_init) (cz_rt mX11_init), Cond.methodLink (cz_on 11) 3 objectInit]) rfl (bw_g bw_s6) (by decide +kernel)
set_option maxRecDepth 20000 in
theorem bq30 : Cond.methodLink (cz_on 12) 142 (cz_nm mX12_goesOn) ∈ cz_T ∧ Cond.instanceMethod (cz_nm mX12_goesOn) ∈ cz_T ∧ Cond.code (cz_nm mX12_goesOn) (cz_cc mX12_goesOn) (cz_nL mX12_goesOn) (cz_rt mX12_goesOn) ∈ cz_T ∧ Cond.methodLink (cz_on 12) 105 (cz_nm mX12_byteAt) ∈ cz_T ∧ Cond.instanceMethod (cz_nm mX12_byteAt) ∈ cz_T ∧ Cond.code (cz_nm mX12_byteAt) (cz_cc mX12_byteAt) (cz_nL mX12_byteAt) (cz_rt mX12_byteAt) ∈ cz_T ∧ Cond.methodLink (cz_on 12) 114 (cz_nm mX12_isLetter) ∈ cz_T ∧ Cond.static (cz_nm mX12_isLetter) ∈ cz_T ∧ Cond.code (cz_nm mX12_isLetter) (cz_cc mX12_isLetter) (cz_nL mX12_isLetter) (cz_rt mX12_isLetter) ∈ cz_T ∧ Cond.constantLong (cz_on 12) 93 (32) ∈ cz_T ∧ Cond.methodLink (cz_on 12) 122 (cz_nm mX12_isDigit) ∈ cz_T ∧ Cond.static (cz_nm mX12_isDigit) ∈ cz_T ∧ Cond.code (cz_nm mX12_isDigit) (cz_cc mX12_isDigit) (cz_nL mX12_isDigit) (cz_rt mX12_isDigit) ∈ cz_T ∧ Cond.methodLink (cz_on 12) 382 (cz_nm mX12_readAll) ∈ cz_T ∧ Cond.instanceMethod (cz_nm mX12_readAll) ∈ cz_T ∧ Cond.code (cz_nm mX12_readAll) (cz_cc mX12_readAll) (cz_nL mX12_readAll) (cz_rt mX12_readAll) ∈ cz_T ∧ Cond.methodLink (cz_on 12) 218 (cz_nm mX12_readLine) ∈ cz_T ∧ Cond.instanceMethod (cz_nm mX12_readLine) ∈ cz_T ∧ Cond.code (cz_nm mX12_readLine) (cz_cc mX12_readLine) (cz_nL mX12_readLine) (cz_rt mX12_readLine) ∈ cz_T ∧ Cond.methodLink (cz_on 12) 138 (cz_nm mX12_isWord) ∈ cz_T ∧ Cond.instanceMethod (cz_nm mX12_isWord) ∈ cz_T ∧ Cond.code (cz_nm mX12_isWord) (cz_cc mX12_isWord) (cz_nL mX12_isWord) (cz_rt mX12_isWord) ∈ cz_T ∧ Cond.methodLink (cz_on 12) 134 (cz_nm mX12_wordOf) ∈ cz_T ∧ Cond.static (cz_nm mX12_wordOf) ∈ cz_T ∧ Cond.code (cz_nm mX12_wordOf) (cz_cc mX12_wordOf) (cz_nL mX12_wordOf) (cz_rt mX12_wordOf) ∈ cz_T ∧ Cond.methodLink (cz_on 12) 87 (cz_nm mJ0_length_8abf5) ∈ cz_T ∧ Cond.methodLink (cz_on 12) 95 (cz_nm mJ0_charAt_5068e) ∈ cz_T ∧ Cond.methodLink (cz_on 12) 227 (cz_nm mX12_readAlp) ∈ cz_T ∧ Cond.instanceMethod (cz_nm mX12_readAlp) ∈ cz_T ∧ Cond.code (cz_nm mX12_readAlp) (cz_cc mX12_readAlp) (cz_nL mX12_readAlp) (cz_rt mX12_readAlp) ∈ cz_T ∧ True := bw_okT (gs := [40, 1, 0, 0, 1, 0, 0, 0, 0, 0, 0, 0, 0, 0, 1, 0, 0, 1, 0, 1, 1, 0, 0, 0, 0, 0, 0, 0, 1, 0]) (L := tables_1_7) (ws := [Cond.methodLink (cz_on 12) 142 (cz_nm mX12_goesOn), Cond.instanceMethod (cz_nm mX12_goesOn), Cond.code (cz_nm mX12_goesOn) (cz_cc mX12_goesOn) (cz_nL mX12_goesOn) (cz_rt mX12_goesOn), Cond.methodLink (cz_on 12) 105 (cz_nm mX12_byteAt), Cond.instanceMethod (cz_nm mX12_byteAt), Cond.code (cz_nm mX12_byteAt) (cz_cc mX12_byteAt) (cz_nL mX12_byteAt) (cz_rt mX12_byteAt), Cond.methodLink (cz_on 12) 114 (cz_nm mX12_isLetter), Cond.static (cz_nm mX12_isLetter), Cond.code (cz_nm mX12_isLetter) (cz_cc mX12_isLetter) (cz_nL mX12_isLetter) (cz_rt mX12_isLetter), Cond.constantLong (cz_on 12) 93 (32), Cond.methodLink (cz_on 12) 122 (cz_nm mX12_isDigit), Cond.static (cz_nm mX12_isDigit), Cond.code (cz_nm mX12_isDigit) (cz_cc mX12_isDigit) (cz_nL mX12_isDigit) (cz_rt mX12_isDigit), Cond.methodLink (cz_on 12) 382 (cz_nm mX12_readAll), Cond.instanceMethod (cz_nm mX12_readAll), Cond.code (cz_nm mX12_readAll) (cz_cc mX12_readAll) (cz_nL mX12_readAll) (cz_rt mX12_readAll), Cond.methodLink (cz_on 12) 218 (cz_nm mX12_readLine), Cond.instanceMethod (cz_nm mX12_readLine), Cond.code (cz_nm mX12_readLine) (cz_cc mX12_readLine) (cz_nL mX12_readLine) (cz_rt mX12_readLine), Cond.methodLink (cz_on 12) 138 (cz_nm mX12_isWord), Cond.instanceMethod (cz_nm mX12_isWord), Cond.code (cz_nm mX12_isWord) (cz_cc mX12_isWord) (cz_nL mX12_isWord) (cz_rt mX12_isWord), Cond.methodLink (cz_on 12) 134 (cz_nm mX12_wordOf), Cond.static (cz_nm mX12_wordOf), Cond.code (cz_nm mX12_wordOf) (cz_cc mX12_wordOf) (cz_nL mX12_wordOf) (cz_rt mX12_wordOf), Cond.methodLink (cz_on 12) 87 (cz_nm mJ0_length_8abf5), Cond.methodLink (cz_on 12) 95 (cz_nm mJ0_charAt_5068e), Cond.methodLink (cz_on 12) 227 (cz_nm mX12_readAlp), Cond.instanceMethod (cz_nm mX12_readAlp), Cond.code (cz_nm mX12_readAlp) (cz_cc mX12_readAlp) (cz_nL mX12_readAlp) (cz_rt mX12_readAlp)]) rfl (bw_g bw_s7) (by decide +kernel)
set_option maxRecDepth 20000 in
theorem bq31 : Cond.methodLink (cz_on 12) 145 (cz_nm mX12_flaw) ∈ cz_T ∧ Cond.instanceMethod (cz_nm mX12_flaw) ∈ cz_T ∧ Cond.code (cz_nm mX12_flaw) (cz_cc mX12_flaw) (cz_nL mX12_flaw) (cz_rt mX12_flaw) ∈ cz_T ∧ Cond.methodLink (cz_on 12) 249 (cz_nm mX12_readPart) ∈ cz_T ∧ Cond.instanceMethod (cz_nm mX12_readPart) ∈ cz_T ∧ Cond.code (cz_nm mX12_readPart) (cz_cc mX12_readPart) (cz_nL mX12_readPart) (cz_rt mX12_readPart) ∈ cz_T ∧ Cond.methodLink (cz_on 12) 157 (cz_nm mX12_needs) ∈ cz_T ∧ Cond.instanceMethod (cz_nm mX12_needs) ∈ cz_T ∧ Cond.code (cz_nm mX12_needs) (cz_cc mX12_needs) (cz_nL mX12_needs) (cz_rt mX12_needs) ∈ cz_T ∧ Cond.methodLink (cz_on 12) 161 (cz_nm mX12_readWhole) ∈ cz_T ∧ Cond.instanceMethod (cz_nm mX12_readWhole) ∈ cz_T ∧ Cond.code (cz_nm mX12_readWhole) (cz_cc mX12_readWhole) (cz_nL mX12_readWhole) (cz_rt mX12_readWhole) ∈ cz_T ∧ Cond.methodLink (cz_on 12) 153 (cz_nm mX12_bounded) ∈ cz_T ∧ Cond.instanceMethod (cz_nm mX12_bounded) ∈ cz_T ∧ Cond.code (cz_nm mX12_bounded) (cz_cc mX12_bounded) (cz_nL mX12_bounded) (cz_rt mX12_bounded) ∈ cz_T ∧ Cond.methodLink (cz_on 12) 149 (cz_nm mX12_in) ∈ cz_T ∧ Cond.static (cz_nm mX12_in) ∈ cz_T ∧ Cond.code (cz_nm mX12_in) (cz_cc mX12_in) (cz_nL mX12_in) (cz_rt mX12_in) ∈ cz_T ∧ Cond.methodLink (cz_on 12) 257 (cz_nm mX12_needsSign) ∈ cz_T ∧ Cond.instanceMethod (cz_nm mX12_needsSign) ∈ cz_T ∧ Cond.code (cz_nm mX12_needsSign) (cz_cc mX12_needsSign) (cz_nL mX12_needsSign) (cz_rt mX12_needsSign) ∈ cz_T ∧ Cond.methodLink (cz_on 12) 230 (cz_nm mX12_readEvent) ∈ cz_T ∧ Cond.instanceMethod (cz_nm mX12_readEvent) ∈ cz_T ∧ Cond.code (cz_nm mX12_readEvent) (cz_cc mX12_readEvent) (cz_nL mX12_readEvent) (cz_rt mX12_readEvent) ∈ cz_T ∧ Cond.methodLink (cz_on 12) 268 (cz_nm mX12_begins) ∈ cz_T ∧ Cond.instanceMethod (cz_nm mX12_begins) ∈ cz_T ∧ Cond.code (cz_nm mX12_begins) (cz_cc mX12_begins) (cz_nL mX12_begins) (cz_rt mX12_begins) ∈ cz_T ∧ Cond.methodLink (cz_on 12) 233 (cz_nm mX12_readCheese) ∈ cz_T ∧ Cond.instanceMethod (cz_nm mX12_readCheese) ∈ cz_T ∧ Cond.code (cz_nm mX12_readCheese) (cz_cc mX12_readCheese) (cz_nL mX12_readCheese) (cz_rt mX12_readCheese) ∈ cz_T ∧ True := bw_okT (gs := [77, 1, 0, 1, 1, 0, 0, 1, 0, 0, 1, 0, 0, 1, 0, 0, 0, 0, 2, 1, 0, 1, 1, 0, 0, 1, 0, 6, 1, 0]) (L := tables_1_7) (ws := [Cond.methodLink (cz_on 12) 145 (cz_nm mX12_flaw), Cond.instanceMethod (cz_nm mX12_flaw), Cond.code (cz_nm mX12_flaw) (cz_cc mX12_flaw) (cz_nL mX12_flaw) (cz_rt mX12_flaw), Cond.methodLink (cz_on 12) 249 (cz_nm mX12_readPart), Cond.instanceMethod (cz_nm mX12_readPart), Cond.code (cz_nm mX12_readPart) (cz_cc mX12_readPart) (cz_nL mX12_readPart) (cz_rt mX12_readPart), Cond.methodLink (cz_on 12) 157 (cz_nm mX12_needs), Cond.instanceMethod (cz_nm mX12_needs), Cond.code (cz_nm mX12_needs) (cz_cc mX12_needs) (cz_nL mX12_needs) (cz_rt mX12_needs), Cond.methodLink (cz_on 12) 161 (cz_nm mX12_readWhole), Cond.instanceMethod (cz_nm mX12_readWhole), Cond.code (cz_nm mX12_readWhole) (cz_cc mX12_readWhole) (cz_nL mX12_readWhole) (cz_rt mX12_readWhole), Cond.methodLink (cz_on 12) 153 (cz_nm mX12_bounded), Cond.instanceMethod (cz_nm mX12_bounded), Cond.code (cz_nm mX12_bounded) (cz_cc mX12_bounded) (cz_nL mX12_bounded) (cz_rt mX12_bounded), Cond.methodLink (cz_on 12) 149 (cz_nm mX12_in), Cond.static (cz_nm mX12_in), Cond.code (cz_nm mX12_in) (cz_cc mX12_in) (cz_nL mX12_in) (cz_rt mX12_in), Cond.methodLink (cz_on 12) 257 (cz_nm mX12_needsSign), Cond.instanceMethod (cz_nm mX12_needsSign), Cond.code (cz_nm mX12_needsSign) (cz_cc mX12_needsSign) (cz_nL mX12_needsSign) (cz_rt mX12_needsSign), Cond.methodLink (cz_on 12) 230 (cz_nm mX12_readEvent), Cond.instanceMethod (cz_nm mX12_readEvent), Cond.code (cz_nm mX12_readEvent) (cz_cc mX12_readEvent) (cz_nL mX12_readEvent) (cz_rt mX12_readEvent), Cond.methodLink (cz_on 12) 268 (cz_nm mX12_begins), Cond.instanceMethod (cz_nm mX12_begins), Cond.code (cz_nm mX12_begins) (cz_cc mX12_begins) (cz_nL mX12_begins) (cz_rt mX12_begins), Cond.methodLink (cz_on 12) 233 (cz_nm mX12_readCheese), Cond.instanceMethod (cz_nm mX12_readCheese), Cond.code (cz_nm mX12_readCheese) (cz_cc mX12_readCheese) (cz_nL mX12_readCheese) (cz_rt mX12_readCheese)]) rfl (bw_g bw_s7) (by decide +kernel)
set_option maxRecDepth 20000 in
theorem bq32 : Cond.methodLink (cz_on 12) 285 (cz_nm mX12_readFresh) ∈ cz_T ∧ Cond.instanceMethod (cz_nm mX12_readFresh) ∈ cz_T ∧ Cond.code (cz_nm mX12_readFresh) (cz_cc mX12_readFresh) (cz_nL mX12_readFresh) (cz_rt mX12_readFresh) ∈ cz_T ∧ Cond.methodLink (cz_on 12) 197 (cz_nm mX12_isName) ∈ cz_T ∧ Cond.instanceMethod (cz_nm mX12_isName) ∈ cz_T ∧ Cond.code (cz_nm mX12_isName) (cz_cc mX12_isName) (cz_nL mX12_isName) (cz_rt mX12_isName) ∈ cz_T ∧ Cond.methodLink (cz_on 12) 201 (cz_nm mX11_find) ∈ cz_T ∧ Cond.instanceMethod (cz_nm mX11_find) ∈ cz_T ∧ Cond.selects (cz_on 11) (cz_nm mX11_find) (cz_nm mX11_find) ∈ cz_T ∧ Cond.code (cz_nm mX11_find) (cz_cc mX11_find) (cz_nL mX11_find) (cz_rt mX11_find) ∈ cz_T ∧ Cond.methodLink (cz_on 12) 290 (cz_nm mX12_eatsWord) ∈ cz_T ∧ Cond.instanceMethod (cz_nm mX12_eatsWord) ∈ cz_T ∧ Cond.code (cz_nm mX12_eatsWord) (cz_cc mX12_eatsWord) (cz_nL mX12_eatsWord) (cz_rt mX12_eatsWord) ∈ cz_T ∧ Cond.methodLink (cz_on 12) 293 (cz_nm mX12_names) ∈ cz_T ∧ Cond.instanceMethod (cz_nm mX12_names) ∈ cz_T ∧ Cond.code (cz_nm mX12_names) (cz_cc mX12_names) (cz_nL mX12_names) (cz_rt mX12_names) ∈ cz_T ∧ Cond.methodLink (cz_on 12) 236 (cz_nm mX12_readAlmanac) ∈ cz_T ∧ Cond.instanceMethod (cz_nm mX12_readAlmanac) ∈ cz_T ∧ Cond.code (cz_nm mX12_readAlmanac) (cz_cc mX12_readAlmanac) (cz_nL mX12_readAlmanac) (cz_rt mX12_readAlmanac) ∈ cz_T ∧ Cond.methodLink (cz_on 12) 308 (cz_nm mX12_readRising) ∈ cz_T ∧ Cond.instanceMethod (cz_nm mX12_readRising) ∈ cz_T ∧ Cond.code (cz_nm mX12_readRising) (cz_cc mX12_readRising) (cz_nL mX12_readRising) (cz_rt mX12_readRising) ∈ cz_T ∧ Cond.methodLink (cz_on 12) 221 (cz_nm mX12_eatsSign) ∈ cz_T ∧ Cond.instanceMethod (cz_nm mX12_eatsSign) ∈ cz_T ∧ Cond.code (cz_nm mX12_eatsSign) (cz_cc mX12_eatsSign) (cz_nL mX12_eatsSign) (cz_rt mX12_eatsSign) ∈ cz_T ∧ Cond.methodLink (cz_on 12) 239 (cz_nm mX12_readTurner) ∈ cz_T ∧ Cond.instanceMethod (cz_nm mX12_readTurner) ∈ cz_T ∧ Cond.code (cz_nm mX12_readTurner) (cz_cc mX12_readTurner) (cz_nL mX12_readTurner) (cz_rt mX12_readTurner) ∈ cz_T ∧ Cond.methodLink (cz_on 12) 329 (cz_nm mX12_has) ∈ cz_T ∧ Cond.static (cz_nm mX12_has) ∈ cz_T ∧ True := bw_okT (gs := [126, 1, 0, 0, 1, 0, 5, 0, 0, 0, 1, 1, 0, 0, 1, 0, 0, 1, 0, 0, 1, 0, 0, 1, 0, 0, 1, 0, 6, 0]) (L := tables_1_7) (ws := [Cond.methodLink (cz_on 12) 285 (cz_nm mX12_readFresh), Cond.instanceMethod (cz_nm mX12_readFresh), Cond.code (cz_nm mX12_readFresh) (cz_cc mX12_readFresh) (cz_nL mX12_readFresh) (cz_rt mX12_readFresh), Cond.methodLink (cz_on 12) 197 (cz_nm mX12_isName), Cond.instanceMethod (cz_nm mX12_isName), Cond.code (cz_nm mX12_isName) (cz_cc mX12_isName) (cz_nL mX12_isName) (cz_rt mX12_isName), Cond.methodLink (cz_on 12) 201 (cz_nm mX11_find), Cond.instanceMethod (cz_nm mX11_find), Cond.selects (cz_on 11) (cz_nm mX11_find) (cz_nm mX11_find), Cond.code (cz_nm mX11_find) (cz_cc mX11_find) (cz_nL mX11_find) (cz_rt mX11_find), Cond.methodLink (cz_on 12) 290 (cz_nm mX12_eatsWord), Cond.instanceMethod (cz_nm mX12_eatsWord), Cond.code (cz_nm mX12_eatsWord) (cz_cc mX12_eatsWord) (cz_nL mX12_eatsWord) (cz_rt mX12_eatsWord), Cond.methodLink (cz_on 12) 293 (cz_nm mX12_names), Cond.instanceMethod (cz_nm mX12_names), Cond.code (cz_nm mX12_names) (cz_cc mX12_names) (cz_nL mX12_names) (cz_rt mX12_names), Cond.methodLink (cz_on 12) 236 (cz_nm mX12_readAlmanac), Cond.instanceMethod (cz_nm mX12_readAlmanac), Cond.code (cz_nm mX12_readAlmanac) (cz_cc mX12_readAlmanac) (cz_nL mX12_readAlmanac) (cz_rt mX12_readAlmanac), Cond.methodLink (cz_on 12) 308 (cz_nm mX12_readRising), Cond.instanceMethod (cz_nm mX12_readRising), Cond.code (cz_nm mX12_readRising) (cz_cc mX12_readRising) (cz_nL mX12_readRising) (cz_rt mX12_readRising), Cond.methodLink (cz_on 12) 221 (cz_nm mX12_eatsSign), Cond.instanceMethod (cz_nm mX12_eatsSign), Cond.code (cz_nm mX12_eatsSign) (cz_cc mX12_eatsSign) (cz_nL mX12_eatsSign) (cz_rt mX12_eatsSign), Cond.methodLink (cz_on 12) 239 (cz_nm mX12_readTurner), Cond.instanceMethod (cz_nm mX12_readTurner), Cond.code (cz_nm mX12_readTurner) (cz_cc mX12_readTurner) (cz_nL mX12_readTurner) (cz_rt mX12_readTurner), Cond.methodLink (cz_on 12) 329 (cz_nm mX12_has), Cond.static (cz_nm mX12_has)]) rfl (bw_g bw_s7) (by decide +kernel)
set_option maxRecDepth 20000 in
theorem bq33 : Cond.code (cz_nm mX12_has) (cz_cc mX12_has) (cz_nL mX12_has) (cz_rt mX12_has) ∈ cz_T ∧ Cond.methodLink (cz_on 12) 242 (cz_nm mX12_readCall) ∈ cz_T ∧ Cond.instanceMethod (cz_nm mX12_readCall) ∈ cz_T ∧ Cond.code (cz_nm mX12_readCall) (cz_cc mX12_readCall) (cz_nL mX12_readCall) (cz_rt mX12_readCall) ∈ cz_T ∧ Cond.methodLink (cz_on 12) 245 (cz_nm mX12_readSlice) ∈ cz_T ∧ Cond.instanceMethod (cz_nm mX12_readSlice) ∈ cz_T ∧ Cond.code (cz_nm mX12_readSlice) (cz_cc mX12_readSlice) (cz_nL mX12_readSlice) (cz_rt mX12_readSlice) ∈ cz_T ∧ Cond.methodLink (cz_on 12) 81 (cz_nm mX12_good) ∈ cz_T ∧ Cond.instanceMethod (cz_nm mX12_good) ∈ cz_T ∧ Cond.code (cz_nm mX12_good) (cz_cc mX12_good) (cz_nL mX12_good) (cz_rt mX12_good) ∈ cz_T ∧ Cond.methodLink (cz_on 13) 32 (cz_nm mX12_fault) ∈ cz_T ∧ Cond.instanceMethod (cz_nm mX12_fault) ∈ cz_T ∧ Cond.selects (cz_on 12) (cz_nm mX12_fault) (cz_nm mX12_fault) ∈ cz_T ∧ Cond.code (cz_nm mX12_fault) (cz_cc mX12_fault) (cz_nL mX12_fault) (cz_rt mX12_fault) ∈ cz_T ∧ Cond.methodLink (cz_on 13) 36 (cz_nm mX12_where) ∈ cz_T ∧ Cond.instanceMethod (cz_nm mX12_where) ∈ cz_T ∧ Cond.selects (cz_on 12) (cz_nm mX12_where) (cz_nm mX12_where) ∈ cz_T ∧ Cond.code (cz_nm mX12_where) (cz_cc mX12_where) (cz_nL mX12_where) (cz_rt mX12_where) ∈ cz_T ∧ Cond.methodLink (cz_on 13) 40 (cz_nm mX12_sky) ∈ cz_T ∧ Cond.instanceMethod (cz_nm mX12_sky) ∈ cz_T ∧ Cond.selects (cz_on 12) (cz_nm mX12_sky) (cz_nm mX12_sky) ∈ cz_T ∧ Cond.code (cz_nm mX12_sky) (cz_cc mX12_sky) (cz_nL mX12_sky) (cz_rt mX12_sky) ∈ cz_T ∧ Cond.methodLink (cz_on 12) 443 (cz_nm mX12_isMinute) ∈ cz_T ∧ Cond.instanceMethod (cz_nm mX12_isMinute) ∈ cz_T ∧ Cond.code (cz_nm mX12_isMinute) (cz_cc mX12_isMinute) (cz_nL mX12_isMinute) (cz_rt mX12_isMinute) ∈ cz_T ∧ Cond.methodLink (cz_on 12) 434 (cz_nm mX12_laysLight) ∈ cz_T ∧ Cond.instanceMethod (cz_nm mX12_laysLight) ∈ cz_T ∧ Cond.code (cz_nm mX12_laysLight) (cz_cc mX12_laysLight) (cz_nL mX12_laysLight) (cz_rt mX12_laysLight) ∈ cz_T ∧ Cond.methodLink (cz_on 12) 393 (cz_nm mX12_events) ∈ cz_T ∧ Cond.instanceMethod (cz_nm mX12_events) ∈ cz_T ∧ True := bw_okT (gs := [176, 0, 1, 0, 3, 1, 0, 0, 1, 0, 0, 0, 0, 0, 0, 0, 0, 0, 0, 0, 0, 0, 0, 1, 0, 0, 1, 0, 0, 1]) (L := tables_1_7) (ws := [Cond.code (cz_nm mX12_has) (cz_cc mX12_has) (cz_nL mX12_has) (cz_rt mX12_has), Cond.methodLink (cz_on 12) 242 (cz_nm mX12_readCall), Cond.instanceMethod (cz_nm mX12_readCall), Cond.code (cz_nm mX12_readCall) (cz_cc mX12_readCall) (cz_nL mX12_readCall) (cz_rt mX12_readCall), Cond.methodLink (cz_on 12) 245 (cz_nm mX12_readSlice), Cond.instanceMethod (cz_nm mX12_readSlice), Cond.code (cz_nm mX12_readSlice) (cz_cc mX12_readSlice) (cz_nL mX12_readSlice) (cz_rt mX12_readSlice), Cond.methodLink (cz_on 12) 81 (cz_nm mX12_good), Cond.instanceMethod (cz_nm mX12_good), Cond.code (cz_nm mX12_good) (cz_cc mX12_good) (cz_nL mX12_good) (cz_rt mX12_good), Cond.methodLink (cz_on 13) 32 (cz_nm mX12_fault), Cond.instanceMethod (cz_nm mX12_fault), Cond.selects (cz_on 12) (cz_nm mX12_fault) (cz_nm mX12_fault), Cond.code (cz_nm mX12_fault) (cz_cc mX12_fault) (cz_nL mX12_fault) (cz_rt mX12_fault), Cond.methodLink (cz_on 13) 36 (cz_nm mX12_where), Cond.instanceMethod (cz_nm mX12_where), Cond.selects (cz_on 12) (cz_nm mX12_where) (cz_nm mX12_where), Cond.code (cz_nm mX12_where) (cz_cc mX12_where) (cz_nL mX12_where) (cz_rt mX12_where), Cond.methodLink (cz_on 13) 40 (cz_nm mX12_sky), Cond.instanceMethod (cz_nm mX12_sky), Cond.selects (cz_on 12) (cz_nm mX12_sky) (cz_nm mX12_sky), Cond.code (cz_nm mX12_sky) (cz_cc mX12_sky) (cz_nL mX12_sky) (cz_rt mX12_sky), Cond.methodLink (cz_on 12) 443 (cz_nm mX12_isMinute), Cond.instanceMethod (cz_nm mX12_isMinute), Cond.code (cz_nm mX12_isMinute) (cz_cc mX12_isMinute) (cz_nL mX12_isMinute) (cz_rt mX12_isMinute), Cond.methodLink (cz_on 12) 434 (cz_nm mX12_laysLight), Cond.instanceMethod (cz_nm mX12_laysLight), Cond.code (cz_nm mX12_laysLight) (cz_cc mX12_laysLight) (cz_nL mX12_laysLight) (cz_rt mX12_laysLight), Cond.methodLink (cz_on 12) 393 (cz_nm mX12_events), Cond.instanceMethod (cz_nm mX12_events)]) rfl (bw_g bw_s7) (by decide +kernel)
set_option maxRecDepth 20000 in
theorem bq34 : Cond.code (cz_nm mX12_events) (cz_cc mX12_events) (cz_nL mX12_events) (cz_rt mX12_events) ∈ cz_T ∧ Cond.methodLink (cz_on 12) 395 (cz_nm mX12_fromOf) ∈ cz_T ∧ Cond.instanceMethod (cz_nm mX12_fromOf) ∈ cz_T ∧ Cond.code (cz_nm mX12_fromOf) (cz_cc mX12_fromOf) (cz_nL mX12_fromOf) (cz_rt mX12_fromOf) ∈ cz_T ∧ Cond.methodLink (cz_on 12) 398 (cz_nm mX12_toOf) ∈ cz_T ∧ Cond.instanceMethod (cz_nm mX12_toOf) ∈ cz_T ∧ Cond.code (cz_nm mX12_toOf) (cz_cc mX12_toOf) (cz_nL mX12_toOf) (cz_rt mX12_toOf) ∈ cz_T ∧ Cond.methodLink (cz_on 12) 401 (cz_nm mX12_marksLight) ∈ cz_T ∧ Cond.instanceMethod (cz_nm mX12_marksLight) ∈ cz_T ∧ Cond.code (cz_nm mX12_marksLight) (cz_cc mX12_marksLight) (cz_nL mX12_marksLight) (cz_rt mX12_marksLight) ∈ cz_T ∧ Cond.methodLink (cz_on 12) 404 (cz_nm mX12_kindOf) ∈ cz_T ∧ Cond.instanceMethod (cz_nm mX12_kindOf) ∈ cz_T ∧ Cond.code (cz_nm mX12_kindOf) (cz_cc mX12_kindOf) (cz_nL mX12_kindOf) (cz_rt mX12_kindOf) ∈ cz_T ∧ Cond.methodLink (cz_on 12) 407 (cz_nm mX12_hutOf) ∈ cz_T ∧ Cond.instanceMethod (cz_nm mX12_hutOf) ∈ cz_T ∧ Cond.code (cz_nm mX12_hutOf) (cz_cc mX12_hutOf) (cz_nL mX12_hutOf) (cz_rt mX12_hutOf) ∈ cz_T ∧ Cond.methodLink (cz_on 13) 45 (cz_nm mX12_light) ∈ cz_T ∧ Cond.instanceMethod (cz_nm mX12_light) ∈ cz_T ∧ Cond.selects (cz_on 12) (cz_nm mX12_light) (cz_nm mX12_light) ∈ cz_T ∧ Cond.code (cz_nm mX12_light) (cz_cc mX12_light) (cz_nL mX12_light) (cz_rt mX12_light) ∈ cz_T ∧ True := bw_okT (gs := [215, 0, 1, 0, 0, 1, 0, 0, 1, 0, 0, 1, 0, 0, 1, 0, 0, 0, 0, 0]) (L := tables_1_7) (ws := [Cond.code (cz_nm mX12_events) (cz_cc mX12_events) (cz_nL mX12_events) (cz_rt mX12_events), Cond.methodLink (cz_on 12) 395 (cz_nm mX12_fromOf), Cond.instanceMethod (cz_nm mX12_fromOf), Cond.code (cz_nm mX12_fromOf) (cz_cc mX12_fromOf) (cz_nL mX12_fromOf) (cz_rt mX12_fromOf), Cond.methodLink (cz_on 12) 398 (cz_nm mX12_toOf), Cond.instanceMethod (cz_nm mX12_toOf), Cond.code (cz_nm mX12_toOf) (cz_cc mX12_toOf) (cz_nL mX12_toOf) (cz_rt mX12_toOf), Cond.methodLink (cz_on 12) 401 (cz_nm mX12_marksLight), Cond.instanceMethod (cz_nm mX12_marksLight), Cond.code (cz_nm mX12_marksLight) (cz_cc mX12_marksLight) (cz_nL mX12_marksLight) (cz_rt mX12_marksLight), Cond.methodLink (cz_on 12) 404 (cz_nm mX12_kindOf), Cond.instanceMethod (cz_nm mX12_kindOf), Cond.code (cz_nm mX12_kindOf) (cz_cc mX12_kindOf) (cz_nL mX12_kindOf) (cz_rt mX12_kindOf), Cond.methodLink (cz_on 12) 407 (cz_nm mX12_hutOf), Cond.instanceMethod (cz_nm mX12_hutOf), Cond.code (cz_nm mX12_hutOf) (cz_cc mX12_hutOf) (cz_nL mX12_hutOf) (cz_rt mX12_hutOf), Cond.methodLink (cz_on 13) 45 (cz_nm mX12_light), Cond.instanceMethod (cz_nm mX12_light), Cond.selects (cz_on 12) (cz_nm mX12_light) (cz_nm mX12_light), Cond.code (cz_nm mX12_light) (cz_cc mX12_light) (cz_nL mX12_light) (cz_rt mX12_light)]) rfl (bw_g bw_s7) (by decide +kernel)
set_option maxRecDepth 20000 in
theorem bq35 : Cond.methodLink (cz_on 12) 446 (cz_nm mX12_isHut) ∈ cz_T ∧ Cond.instanceMethod (cz_nm mX12_isHut) ∈ cz_T ∧ Cond.code (cz_nm mX12_isHut) (cz_cc mX12_isHut) (cz_nL mX12_isHut) (cz_rt mX12_isHut) ∈ cz_T ∧ Cond.methodLink (cz_on 13) 50 (cz_nm mX12_changes) ∈ cz_T ∧ Cond.instanceMethod (cz_nm mX12_changes) ∈ cz_T ∧ Cond.selects (cz_on 12) (cz_nm mX12_changes) (cz_nm mX12_changes) ∈ cz_T ∧ Cond.code (cz_nm mX12_changes) (cz_cc mX12_changes) (cz_nL mX12_changes) (cz_rt mX12_changes) ∈ cz_T ∧ Cond.methodLink (cz_on 12) 416 (cz_nm mX12_seemsToIn) ∈ cz_T ∧ Cond.instanceMethod (cz_nm mX12_seemsToIn) ∈ cz_T ∧ Cond.code (cz_nm mX12_seemsToIn) (cz_cc mX12_seemsToIn) (cz_nL mX12_seemsToIn) (cz_rt mX12_seemsToIn) ∈ cz_T ∧ Cond.methodLink (cz_on 12) 413 (cz_nm mX12_changesIn) ∈ cz_T ∧ Cond.instanceMethod (cz_nm mX12_changesIn) ∈ cz_T ∧ Cond.code (cz_nm mX12_changesIn) (cz_cc mX12_changesIn) (cz_nL mX12_changesIn) (cz_rt mX12_changesIn) ∈ cz_T ∧ Cond.methodLink (cz_on 13) 55 (cz_nm mX12_change) ∈ cz_T ∧ Cond.instanceMethod (cz_nm mX12_change) ∈ cz_T ∧ Cond.selects (cz_on 12) (cz_nm mX12_change) (cz_nm mX12_change) ∈ cz_T ∧ Cond.code (cz_nm mX12_change) (cz_cc mX12_change) (cz_nL mX12_change) (cz_rt mX12_change) ∈ cz_T ∧ Cond.methodLink (cz_on 13) 59 (cz_nm mX12_peak) ∈ cz_T ∧ Cond.instanceMethod (cz_nm mX12_peak) ∈ cz_T ∧ Cond.selects (cz_on 12) (cz_nm mX12_peak) (cz_nm mX12_peak) ∈ cz_T ∧ Cond.code (cz_nm mX12_peak) (cz_cc mX12_peak) (cz_nL mX12_peak) (cz_rt mX12_peak) ∈ cz_T ∧ Cond.methodLink (cz_on 12) 449 (cz_nm mX12_dueIn) ∈ cz_T ∧ Cond.instanceMethod (cz_nm mX12_dueIn) ∈ cz_T ∧ Cond.code (cz_nm mX12_dueIn) (cz_cc mX12_dueIn) (cz_nL mX12_dueIn) (cz_rt mX12_dueIn) ∈ cz_T ∧ Cond.methodLink (cz_on 13) 63 (cz_nm mX12_due) ∈ cz_T ∧ Cond.instanceMethod (cz_nm mX12_due) ∈ cz_T ∧ Cond.selects (cz_on 12) (cz_nm mX12_due) (cz_nm mX12_due) ∈ cz_T ∧ Cond.code (cz_nm mX12_due) (cz_cc mX12_due) (cz_nL mX12_due) (cz_rt mX12_due) ∈ cz_T ∧ Cond.methodLink (cz_on 13) 67 (cz_nm mX12_awake) ∈ cz_T ∧ Cond.instanceMethod (cz_nm mX12_awake) ∈ cz_T ∧ True := bw_okT (gs := [0, 1, 0, 0, 0, 0, 0, 0, 1, 0, 0, 1, 0, 0, 0, 0, 0, 0, 0, 0, 0, 0, 1, 0, 0, 0, 0, 0, 0, 0]) (L := tables_1_8) (ws := [Cond.methodLink (cz_on 12) 446 (cz_nm mX12_isHut), Cond.instanceMethod (cz_nm mX12_isHut), Cond.code (cz_nm mX12_isHut) (cz_cc mX12_isHut) (cz_nL mX12_isHut) (cz_rt mX12_isHut), Cond.methodLink (cz_on 13) 50 (cz_nm mX12_changes), Cond.instanceMethod (cz_nm mX12_changes), Cond.selects (cz_on 12) (cz_nm mX12_changes) (cz_nm mX12_changes), Cond.code (cz_nm mX12_changes) (cz_cc mX12_changes) (cz_nL mX12_changes) (cz_rt mX12_changes), Cond.methodLink (cz_on 12) 416 (cz_nm mX12_seemsToIn), Cond.instanceMethod (cz_nm mX12_seemsToIn), Cond.code (cz_nm mX12_seemsToIn) (cz_cc mX12_seemsToIn) (cz_nL mX12_seemsToIn) (cz_rt mX12_seemsToIn), Cond.methodLink (cz_on 12) 413 (cz_nm mX12_changesIn), Cond.instanceMethod (cz_nm mX12_changesIn), Cond.code (cz_nm mX12_changesIn) (cz_cc mX12_changesIn) (cz_nL mX12_changesIn) (cz_rt mX12_changesIn), Cond.methodLink (cz_on 13) 55 (cz_nm mX12_change), Cond.instanceMethod (cz_nm mX12_change), Cond.selects (cz_on 12) (cz_nm mX12_change) (cz_nm mX12_change), Cond.code (cz_nm mX12_change) (cz_cc mX12_change) (cz_nL mX12_change) (cz_rt mX12_change), Cond.methodLink (cz_on 13) 59 (cz_nm mX12_peak), Cond.instanceMethod (cz_nm mX12_peak), Cond.selects (cz_on 12) (cz_nm mX12_peak) (cz_nm mX12_peak), Cond.code (cz_nm mX12_peak) (cz_cc mX12_peak) (cz_nL mX12_peak) (cz_rt mX12_peak), Cond.methodLink (cz_on 12) 449 (cz_nm mX12_dueIn), Cond.instanceMethod (cz_nm mX12_dueIn), Cond.code (cz_nm mX12_dueIn) (cz_cc mX12_dueIn) (cz_nL mX12_dueIn) (cz_rt mX12_dueIn), Cond.methodLink (cz_on 13) 63 (cz_nm mX12_due), Cond.instanceMethod (cz_nm mX12_due), Cond.selects (cz_on 12) (cz_nm mX12_due) (cz_nm mX12_due), Cond.code (cz_nm mX12_due) (cz_cc mX12_due) (cz_nL mX12_due) (cz_rt mX12_due), Cond.methodLink (cz_on 13) 67 (cz_nm mX12_awake), Cond.instanceMethod (cz_nm mX12_awake)]) rfl (bw_g bw_s8) (by decide +kernel)
set_option maxRecDepth 20000 in
theorem bq36 : Cond.selects (cz_on 12) (cz_nm mX12_awake) (cz_nm mX12_awake) ∈ cz_T ∧ Cond.code (cz_nm mX12_awake) (cz_cc mX12_awake) (cz_nL mX12_awake) (cz_rt mX12_awake) ∈ cz_T ∧ Cond.methodLink (cz_on 12) 452 (cz_nm mX12_isTurner) ∈ cz_T ∧ Cond.instanceMethod (cz_nm mX12_isTurner) ∈ cz_T ∧ Cond.code (cz_nm mX12_isTurner) (cz_cc mX12_isTurner) (cz_nL mX12_isTurner) (cz_rt mX12_isTurner) ∈ cz_T ∧ Cond.methodLink (cz_on 12) 419 (cz_nm mX12_isAwake) ∈ cz_T ∧ Cond.instanceMethod (cz_nm mX12_isAwake) ∈ cz_T ∧ Cond.code (cz_nm mX12_isAwake) (cz_cc mX12_isAwake) (cz_nL mX12_isAwake) (cz_rt mX12_isAwake) ∈ cz_T ∧ Cond.methodLink (cz_on 13) 72 (cz_nm mX12_notices) ∈ cz_T ∧ Cond.instanceMethod (cz_nm mX12_notices) ∈ cz_T ∧ Cond.selects (cz_on 12) (cz_nm mX12_notices) (cz_nm mX12_notices) ∈ cz_T ∧ Cond.code (cz_nm mX12_notices) (cz_cc mX12_notices) (cz_nL mX12_notices) (cz_rt mX12_notices) ∈ cz_T ∧ Cond.methodLink (cz_on 12) 431 (cz_nm mX12_noticesIn) ∈ cz_T ∧ Cond.instanceMethod (cz_nm mX12_noticesIn) ∈ cz_T ∧ Cond.code (cz_nm mX12_noticesIn) (cz_cc mX12_noticesIn) (cz_nL mX12_noticesIn) (cz_rt mX12_noticesIn) ∈ cz_T ∧ Cond.methodLink (cz_on 12) 410 (cz_nm mX12_isInAlmanac) ∈ cz_T ∧ Cond.instanceMethod (cz_nm mX12_isInAlmanac) ∈ cz_T ∧ Cond.code (cz_nm mX12_isInAlmanac) (cz_cc mX12_isInAlmanac) (cz_nL mX12_isInAlmanac) (cz_rt mX12_isInAlmanac) ∈ cz_T ∧ Cond.methodLink (cz_on 13) 76 (cz_nm mX12_work) ∈ cz_T ∧ Cond.instanceMethod (cz_nm mX12_work) ∈ cz_T ∧ Cond.selects (cz_on 12) (cz_nm mX12_work) (cz_nm mX12_work) ∈ cz_T ∧ Cond.code (cz_nm mX12_work) (cz_cc mX12_work) (cz_nL mX12_work) (cz_rt mX12_work) ∈ cz_T ∧ Cond.methodLink (cz_on 12) 455 (cz_nm mX12_tonight) ∈ cz_T ∧ Cond.instanceMethod (cz_nm mX12_tonight) ∈ cz_T ∧ Cond.code (cz_nm mX12_tonight) (cz_cc mX12_tonight) (cz_nL mX12_tonight) (cz_rt mX12_tonight) ∈ cz_T ∧ Cond.methodLink (cz_on 12) 437 (cz_nm mX12_everybody) ∈ cz_T ∧ Cond.instanceMethod (cz_nm mX12_everybody) ∈ cz_T ∧ Cond.code (cz_nm mX12_everybody) (cz_cc mX12_everybody) (cz_nL mX12_everybody) (cz_rt mX12_everybody) ∈ cz_T ∧ Cond.methodLink (cz_on 12) 440 (cz_nm mX12_goes) ∈ cz_T ∧ Cond.instanceMethod (cz_nm mX12_goes) ∈ cz_T ∧ True := bw_okT (gs := [34, 0, 0, 1, 0, 0, 1, 0, 0, 0, 0, 0, 0, 1, 0, 0, 1, 0, 0, 0, 0, 0, 0, 1, 0, 0, 1, 0, 0, 1]) (L := tables_1_8) (ws := [Cond.selects (cz_on 12) (cz_nm mX12_awake) (cz_nm mX12_awake), Cond.code (cz_nm mX12_awake) (cz_cc mX12_awake) (cz_nL mX12_awake) (cz_rt mX12_awake), Cond.methodLink (cz_on 12) 452 (cz_nm mX12_isTurner), Cond.instanceMethod (cz_nm mX12_isTurner), Cond.code (cz_nm mX12_isTurner) (cz_cc mX12_isTurner) (cz_nL mX12_isTurner) (cz_rt mX12_isTurner), Cond.methodLink (cz_on 12) 419 (cz_nm mX12_isAwake), Cond.instanceMethod (cz_nm mX12_isAwake), Cond.code (cz_nm mX12_isAwake) (cz_cc mX12_isAwake) (cz_nL mX12_isAwake) (cz_rt mX12_isAwake), Cond.methodLink (cz_on 13) 72 (cz_nm mX12_notices), Cond.instanceMethod (cz_nm mX12_notices), Cond.selects (cz_on 12) (cz_nm mX12_notices) (cz_nm mX12_notices), Cond.code (cz_nm mX12_notices) (cz_cc mX12_notices) (cz_nL mX12_notices) (cz_rt mX12_notices), Cond.methodLink (cz_on 12) 431 (cz_nm mX12_noticesIn), Cond.instanceMethod (cz_nm mX12_noticesIn), Cond.code (cz_nm mX12_noticesIn) (cz_cc mX12_noticesIn) (cz_nL mX12_noticesIn) (cz_rt mX12_noticesIn), Cond.methodLink (cz_on 12) 410 (cz_nm mX12_isInAlmanac), Cond.instanceMethod (cz_nm mX12_isInAlmanac), Cond.code (cz_nm mX12_isInAlmanac) (cz_cc mX12_isInAlmanac) (cz_nL mX12_isInAlmanac) (cz_rt mX12_isInAlmanac), Cond.methodLink (cz_on 13) 76 (cz_nm mX12_work), Cond.instanceMethod (cz_nm mX12_work), Cond.selects (cz_on 12) (cz_nm mX12_work) (cz_nm mX12_work), Cond.code (cz_nm mX12_work) (cz_cc mX12_work) (cz_nL mX12_work) (cz_rt mX12_work), Cond.methodLink (cz_on 12) 455 (cz_nm mX12_tonight), Cond.instanceMethod (cz_nm mX12_tonight), Cond.code (cz_nm mX12_tonight) (cz_cc mX12_tonight) (cz_nL mX12_tonight) (cz_rt mX12_tonight), Cond.methodLink (cz_on 12) 437 (cz_nm mX12_everybody), Cond.instanceMethod (cz_nm mX12_everybody), Cond.code (cz_nm mX12_everybody) (cz_cc mX12_everybody) (cz_nL mX12_everybody) (cz_rt mX12_everybody), Cond.methodLink (cz_on 12) 440 (cz_nm mX12_goes), Cond.instanceMethod (cz_nm mX12_goes)]) rfl (bw_g bw_s8) (by decide +kernel)
set_option maxRecDepth 20000 in
theorem bq37 : Cond.code (cz_nm mX12_goes) (cz_cc mX12_goes) (cz_nL mX12_goes) (cz_rt mX12_goes) ∈ cz_T ∧ Cond.methodLink (cz_on 12) 422 (cz_nm mX12_turns) ∈ cz_T ∧ Cond.instanceMethod (cz_nm mX12_turns) ∈ cz_T ∧ Cond.code (cz_nm mX12_turns) (cz_cc mX12_turns) (cz_nL mX12_turns) (cz_rt mX12_turns) ∈ cz_T ∧ Cond.methodLink (cz_on 12) 425 (cz_nm mX12_notes) ∈ cz_T ∧ Cond.instanceMethod (cz_nm mX12_notes) ∈ cz_T ∧ Cond.code (cz_nm mX12_notes) (cz_cc mX12_notes) (cz_nL mX12_notes) (cz_rt mX12_notes) ∈ cz_T ∧ Cond.methodLink (cz_on 12) 428 (cz_nm mX12_priceOf) ∈ cz_T ∧ Cond.instanceMethod (cz_nm mX12_priceOf) ∈ cz_T ∧ Cond.code (cz_nm mX12_priceOf) (cz_cc mX12_priceOf) (cz_nL mX12_priceOf) (cz_rt mX12_priceOf) ∈ cz_T ∧ Cond.methodLink (cz_on 13) 80 (cz_nm mX12_worth) ∈ cz_T ∧ Cond.instanceMethod (cz_nm mX12_worth) ∈ cz_T ∧ Cond.selects (cz_on 12) (cz_nm mX12_worth) (cz_nm mX12_worth) ∈ cz_T ∧ Cond.code (cz_nm mX12_worth) (cz_cc mX12_worth) (cz_nL mX12_worth) (cz_rt mX12_worth) ∈ cz_T ∧ Cond.methodLink (cz_on 12) 458 (cz_nm mX12_lost) ∈ cz_T ∧ Cond.instanceMethod (cz_nm mX12_lost) ∈ cz_T ∧ Cond.code (cz_nm mX12_lost) (cz_cc mX12_lost) (cz_nL mX12_lost) (cz_rt mX12_lost) ∈ cz_T ∧ Cond.constant (cz_on 12) 80 (-100000) ∈ cz_T ∧ Cond.methodLink (cz_on 13) 84 (cz_nm mX12_turned) ∈ cz_T ∧ Cond.instanceMethod (cz_nm mX12_turned) ∈ cz_T ∧ Cond.selects (cz_on 12) (cz_nm mX12_turned) (cz_nm mX12_turned) ∈ cz_T ∧ Cond.code (cz_nm mX12_turned) (cz_cc mX12_turned) (cz_nL mX12_turned) (cz_rt mX12_turned) ∈ cz_T ∧ Cond.methodLink (cz_on 12) 461 (cz_nm mX12_isCheese) ∈ cz_T ∧ Cond.instanceMethod (cz_nm mX12_isCheese) ∈ cz_T ∧ Cond.code (cz_nm mX12_isCheese) (cz_cc mX12_isCheese) (cz_nL mX12_isCheese) (cz_rt mX12_isCheese) ∈ cz_T ∧ Cond.methodLink (cz_on 13) 88 (cz_nm mX12_up) ∈ cz_T ∧ Cond.instanceMethod (cz_nm mX12_up) ∈ cz_T ∧ Cond.selects (cz_on 12) (cz_nm mX12_up) (cz_nm mX12_up) ∈ cz_T ∧ Cond.code (cz_nm mX12_up) (cz_cc mX12_up) (cz_nL mX12_up) (cz_rt mX12_up) ∈ cz_T ∧ Cond.methodLink (cz_on 13) 92 (cz_nm mX12_cheese) ∈ cz_T ∧ True := bw_okT (gs := [71, 0, 1, 0, 0, 1, 0, 0, 1, 0, 0, 0, 0, 0, 0, 1, 0, 0, 0, 0, 0, 0, 0, 1, 0, 0, 0, 0, 0, 0]) (L := tables_1_8) (ws := [Cond.code (cz_nm mX12_goes) (cz_cc mX12_goes) (cz_nL mX12_goes) (cz_rt mX12_goes), Cond.methodLink (cz_on 12) 422 (cz_nm mX12_turns), Cond.instanceMethod (cz_nm mX12_turns), Cond.code (cz_nm mX12_turns) (cz_cc mX12_turns) (cz_nL mX12_turns) (cz_rt mX12_turns), Cond.methodLink (cz_on 12) 425 (cz_nm mX12_notes), Cond.instanceMethod (cz_nm mX12_notes), Cond.code (cz_nm mX12_notes) (cz_cc mX12_notes) (cz_nL mX12_notes) (cz_rt mX12_notes), Cond.methodLink (cz_on 12) 428 (cz_nm mX12_priceOf), Cond.instanceMethod (cz_nm mX12_priceOf), Cond.code (cz_nm mX12_priceOf) (cz_cc mX12_priceOf) (cz_nL mX12_priceOf) (cz_rt mX12_priceOf), Cond.methodLink (cz_on 13) 80 (cz_nm mX12_worth), Cond.instanceMethod (cz_nm mX12_worth), Cond.selects (cz_on 12) (cz_nm mX12_worth) (cz_nm mX12_worth), Cond.code (cz_nm mX12_worth) (cz_cc mX12_worth) (cz_nL mX12_worth) (cz_rt mX12_worth), Cond.methodLink (cz_on 12) 458 (cz_nm mX12_lost), Cond.instanceMethod (cz_nm mX12_lost), Cond.code (cz_nm mX12_lost) (cz_cc mX12_lost) (cz_nL mX12_lost) (cz_rt mX12_lost), Cond.constant (cz_on 12) 80 (-100000), Cond.methodLink (cz_on 13) 84 (cz_nm mX12_turned), Cond.instanceMethod (cz_nm mX12_turned), Cond.selects (cz_on 12) (cz_nm mX12_turned) (cz_nm mX12_turned), Cond.code (cz_nm mX12_turned) (cz_cc mX12_turned) (cz_nL mX12_turned) (cz_rt mX12_turned), Cond.methodLink (cz_on 12) 461 (cz_nm mX12_isCheese), Cond.instanceMethod (cz_nm mX12_isCheese), Cond.code (cz_nm mX12_isCheese) (cz_cc mX12_isCheese) (cz_nL mX12_isCheese) (cz_rt mX12_isCheese), Cond.methodLink (cz_on 13) 88 (cz_nm mX12_up), Cond.instanceMethod (cz_nm mX12_up), Cond.selects (cz_on 12) (cz_nm mX12_up) (cz_nm mX12_up), Cond.code (cz_nm mX12_up) (cz_cc mX12_up) (cz_nL mX12_up) (cz_rt mX12_up), Cond.methodLink (cz_on 13) 92 (cz_nm mX12_cheese)]) rfl (bw_g bw_s8) (by decide +kernel)
set_option maxRecDepth 20000 in
theorem bq38 : Cond.instanceMethod (cz_nm mX12_cheese) ∈ cz_T ∧ Cond.selects (cz_on 12) (cz_nm mX12_cheese) (cz_nm mX12_cheese) ∈ cz_T ∧ Cond.code (cz_nm mX12_cheese) (cz_cc mX12_cheese) (cz_nL mX12_cheese) (cz_rt mX12_cheese) ∈ cz_T ∧ Cond.methodLink (cz_on 13) 96 (cz_nm mX12_vein) ∈ cz_T ∧ Cond.instanceMethod (cz_nm mX12_vein) ∈ cz_T ∧ Cond.selects (cz_on 12) (cz_nm mX12_vein) (cz_nm mX12_vein) ∈ cz_T ∧ Cond.code (cz_nm mX12_vein) (cz_cc mX12_vein) (cz_nL mX12_vein) (cz_rt mX12_vein) ∈ cz_T ∧ Cond.methodLink (cz_on 12) 464 (cz_nm mX12_veinAt) ∈ cz_T ∧ Cond.instanceMethod (cz_nm mX12_veinAt) ∈ cz_T ∧ Cond.code (cz_nm mX12_veinAt) (cz_cc mX12_veinAt) (cz_nL mX12_veinAt) (cz_rt mX12_veinAt) ∈ cz_T ∧ Cond.methodLink (cz_on 13) 100 (cz_nm mX12_cause) ∈ cz_T ∧ Cond.instanceMethod (cz_nm mX12_cause) ∈ cz_T ∧ Cond.selects (cz_on 12) (cz_nm mX12_cause) (cz_nm mX12_cause) ∈ cz_T ∧ Cond.code (cz_nm mX12_cause) (cz_cc mX12_cause) (cz_nL mX12_cause) (cz_rt mX12_cause) ∈ cz_T ∧ Cond.methodLink (cz_on 13) 104 (cz_nm mX12_total) ∈ cz_T ∧ Cond.instanceMethod (cz_nm mX12_total) ∈ cz_T ∧ Cond.selects (cz_on 12) (cz_nm mX12_total) (cz_nm mX12_total) ∈ cz_T ∧ Cond.code (cz_nm mX12_total) (cz_cc mX12_total) (cz_nL mX12_total) (cz_rt mX12_total) ∈ cz_T ∧ Cond.methodLink (cz_on 13) 108 (cz_nm mX12_without) ∈ cz_T ∧ Cond.instanceMethod (cz_nm mX12_without) ∈ cz_T ∧ Cond.selects (cz_on 12) (cz_nm mX12_without) (cz_nm mX12_without) ∈ cz_T ∧ Cond.code (cz_nm mX12_without) (cz_cc mX12_without) (cz_nL mX12_without) (cz_rt mX12_without) ∈ cz_T ∧ Cond.methodLink (cz_on 12) 467 (cz_nm mX12_isEvent) ∈ cz_T ∧ Cond.instanceMethod (cz_nm mX12_isEvent) ∈ cz_T ∧ Cond.code (cz_nm mX12_isEvent) (cz_cc mX12_isEvent) (cz_nL mX12_isEvent) (cz_rt mX12_isEvent) ∈ cz_T ∧ Cond.methodLink (cz_on 13) 112 (cz_nm mX12_wake) ∈ cz_T ∧ Cond.instanceMethod (cz_nm mX12_wake) ∈ cz_T ∧ Cond.selects (cz_on 12) (cz_nm mX12_wake) (cz_nm mX12_wake) ∈ cz_T ∧ Cond.code (cz_nm mX12_wake) (cz_cc mX12_wake) (cz_nL mX12_wake) (cz_rt mX12_wake) ∈ cz_T ∧ Cond.methodLink (cz_on 12) 476 (cz_nm mX12_wakeNow) ∈ cz_T ∧ True := bw_okT (gs := [106, 0, 0, 0, 0, 0, 0, 0, 1, 0, 0, 0, 0, 0, 0, 0, 0, 0, 0, 0, 0, 0, 0, 1, 0, 0, 0, 0, 0, 0]) (L := tables_1_8) (ws := [Cond.instanceMethod (cz_nm mX12_cheese), Cond.selects (cz_on 12) (cz_nm mX12_cheese) (cz_nm mX12_cheese), Cond.code (cz_nm mX12_cheese) (cz_cc mX12_cheese) (cz_nL mX12_cheese) (cz_rt mX12_cheese), Cond.methodLink (cz_on 13) 96 (cz_nm mX12_vein), Cond.instanceMethod (cz_nm mX12_vein), Cond.selects (cz_on 12) (cz_nm mX12_vein) (cz_nm mX12_vein), Cond.code (cz_nm mX12_vein) (cz_cc mX12_vein) (cz_nL mX12_vein) (cz_rt mX12_vein), Cond.methodLink (cz_on 12) 464 (cz_nm mX12_veinAt), Cond.instanceMethod (cz_nm mX12_veinAt), Cond.code (cz_nm mX12_veinAt) (cz_cc mX12_veinAt) (cz_nL mX12_veinAt) (cz_rt mX12_veinAt), Cond.methodLink (cz_on 13) 100 (cz_nm mX12_cause), Cond.instanceMethod (cz_nm mX12_cause), Cond.selects (cz_on 12) (cz_nm mX12_cause) (cz_nm mX12_cause), Cond.code (cz_nm mX12_cause) (cz_cc mX12_cause) (cz_nL mX12_cause) (cz_rt mX12_cause), Cond.methodLink (cz_on 13) 104 (cz_nm mX12_total), Cond.instanceMethod (cz_nm mX12_total), Cond.selects (cz_on 12) (cz_nm mX12_total) (cz_nm mX12_total), Cond.code (cz_nm mX12_total) (cz_cc mX12_total) (cz_nL mX12_total) (cz_rt mX12_total), Cond.methodLink (cz_on 13) 108 (cz_nm mX12_without), Cond.instanceMethod (cz_nm mX12_without), Cond.selects (cz_on 12) (cz_nm mX12_without) (cz_nm mX12_without), Cond.code (cz_nm mX12_without) (cz_cc mX12_without) (cz_nL mX12_without) (cz_rt mX12_without), Cond.methodLink (cz_on 12) 467 (cz_nm mX12_isEvent), Cond.instanceMethod (cz_nm mX12_isEvent), Cond.code (cz_nm mX12_isEvent) (cz_cc mX12_isEvent) (cz_nL mX12_isEvent) (cz_rt mX12_isEvent), Cond.methodLink (cz_on 13) 112 (cz_nm mX12_wake), Cond.instanceMethod (cz_nm mX12_wake), Cond.selects (cz_on 12) (cz_nm mX12_wake) (cz_nm mX12_wake), Cond.code (cz_nm mX12_wake) (cz_cc mX12_wake) (cz_nL mX12_wake) (cz_rt mX12_wake), Cond.methodLink (cz_on 12) 476 (cz_nm mX12_wakeNow)]) rfl (bw_g bw_s8) (by decide +kernel)
set_option maxRecDepth 20000 in
theorem bq39 : Cond.instanceMethod (cz_nm mX12_wakeNow) ∈ cz_T ∧ Cond.code (cz_nm mX12_wakeNow) (cz_cc mX12_wakeNow) (cz_nL mX12_wakeNow) (cz_rt mX12_wakeNow) ∈ cz_T ∧ Cond.methodLink (cz_on 12) 473 (cz_nm mX12_bits) ∈ cz_T ∧ Cond.static (cz_nm mX12_bits) ∈ cz_T ∧ Cond.code (cz_nm mX12_bits) (cz_cc mX12_bits) (cz_nL mX12_bits) (cz_rt mX12_bits) ∈ cz_T ∧ Cond.methodLink (cz_on 13) 116 (cz_nm mX12_wakeTotal) ∈ cz_T ∧ Cond.instanceMethod (cz_nm mX12_wakeTotal) ∈ cz_T ∧ Cond.selects (cz_on 12) (cz_nm mX12_wakeTotal) (cz_nm mX12_wakeTotal) ∈ cz_T ∧ Cond.code (cz_nm mX12_wakeTotal) (cz_cc mX12_wakeTotal) (cz_nL mX12_wakeTotal) (cz_rt mX12_wakeTotal) ∈ cz_T ∧ Cond.methodLink (cz_on 13) 120 (cz_nm mX12_fewest) ∈ cz_T ∧ Cond.instanceMethod (cz_nm mX12_fewest) ∈ cz_T ∧ Cond.selects (cz_on 12) (cz_nm mX12_fewest) (cz_nm mX12_fewest) ∈ cz_T ∧ Cond.code (cz_nm mX12_fewest) (cz_cc mX12_fewest) (cz_nL mX12_fewest) (cz_rt mX12_fewest) ∈ cz_T ∧ Cond.methodLink (cz_on 12) 482 (cz_nm mX12_fewestNow) ∈ cz_T ∧ Cond.instanceMethod (cz_nm mX12_fewestNow) ∈ cz_T ∧ Cond.code (cz_nm mX12_fewestNow) (cz_cc mX12_fewestNow) (cz_nL mX12_fewestNow) (cz_rt mX12_fewestNow) ∈ cz_T ∧ Cond.methodLink (cz_on 12) 479 (cz_nm mX12_missesNone) ∈ cz_T ∧ Cond.instanceMethod (cz_nm mX12_missesNone) ∈ cz_T ∧ Cond.code (cz_nm mX12_missesNone) (cz_cc mX12_missesNone) (cz_nL mX12_missesNone) (cz_rt mX12_missesNone) ∈ cz_T ∧ Cond.methodLink (cz_on 13) 124 (cz_nm mX12_fewestBy) ∈ cz_T ∧ Cond.instanceMethod (cz_nm mX12_fewestBy) ∈ cz_T ∧ Cond.selects (cz_on 12) (cz_nm mX12_fewestBy) (cz_nm mX12_fewestBy) ∈ cz_T ∧ Cond.code (cz_nm mX12_fewestBy) (cz_cc mX12_fewestBy) (cz_nL mX12_fewestBy) (cz_rt mX12_fewestBy) ∈ cz_T ∧ Cond.methodLink (cz_on 13) 128 (cz_nm mX12_fits) ∈ cz_T ∧ Cond.instanceMethod (cz_nm mX12_fits) ∈ cz_T ∧ Cond.selects (cz_on 12) (cz_nm mX12_fits) (cz_nm mX12_fits) ∈ cz_T ∧ Cond.code (cz_nm mX12_fits) (cz_cc mX12_fits) (cz_nL mX12_fits) (cz_rt mX12_fits) ∈ cz_T ∧ Cond.methodLink (cz_on 12) 485 (cz_nm mX12_isSlice) ∈ cz_T ∧ Cond.instanceMethod (cz_nm mX12_isSlice) ∈ cz_T ∧ Cond.code (cz_nm mX12_isSlice) (cz_cc mX12_isSlice) (cz_nL mX12_isSlice) (cz_rt mX12_isSlice) ∈ cz_T ∧ True := bw_okT (gs := [139, 0, 0, 0, 0, 0, 0, 0, 0, 0, 0, 0, 0, 0, 1, 0, 0, 1, 0, 0, 0, 0, 0, 0, 0, 0, 0, 0, 1, 0]) (L := tables_1_8) (ws := [Cond.instanceMethod (cz_nm mX12_wakeNow), Cond.code (cz_nm mX12_wakeNow) (cz_cc mX12_wakeNow) (cz_nL mX12_wakeNow) (cz_rt mX12_wakeNow), Cond.methodLink (cz_on 12) 473 (cz_nm mX12_bits), Cond.static (cz_nm mX12_bits), Cond.code (cz_nm mX12_bits) (cz_cc mX12_bits) (cz_nL mX12_bits) (cz_rt mX12_bits), Cond.methodLink (cz_on 13) 116 (cz_nm mX12_wakeTotal), Cond.instanceMethod (cz_nm mX12_wakeTotal), Cond.selects (cz_on 12) (cz_nm mX12_wakeTotal) (cz_nm mX12_wakeTotal), Cond.code (cz_nm mX12_wakeTotal) (cz_cc mX12_wakeTotal) (cz_nL mX12_wakeTotal) (cz_rt mX12_wakeTotal), Cond.methodLink (cz_on 13) 120 (cz_nm mX12_fewest), Cond.instanceMethod (cz_nm mX12_fewest), Cond.selects (cz_on 12) (cz_nm mX12_fewest) (cz_nm mX12_fewest), Cond.code (cz_nm mX12_fewest) (cz_cc mX12_fewest) (cz_nL mX12_fewest) (cz_rt mX12_fewest), Cond.methodLink (cz_on 12) 482 (cz_nm mX12_fewestNow), Cond.instanceMethod (cz_nm mX12_fewestNow), Cond.code (cz_nm mX12_fewestNow) (cz_cc mX12_fewestNow) (cz_nL mX12_fewestNow) (cz_rt mX12_fewestNow), Cond.methodLink (cz_on 12) 479 (cz_nm mX12_missesNone), Cond.instanceMethod (cz_nm mX12_missesNone), Cond.code (cz_nm mX12_missesNone) (cz_cc mX12_missesNone) (cz_nL mX12_missesNone) (cz_rt mX12_missesNone), Cond.methodLink (cz_on 13) 124 (cz_nm mX12_fewestBy), Cond.instanceMethod (cz_nm mX12_fewestBy), Cond.selects (cz_on 12) (cz_nm mX12_fewestBy) (cz_nm mX12_fewestBy), Cond.code (cz_nm mX12_fewestBy) (cz_cc mX12_fewestBy) (cz_nL mX12_fewestBy) (cz_rt mX12_fewestBy), Cond.methodLink (cz_on 13) 128 (cz_nm mX12_fits), Cond.instanceMethod (cz_nm mX12_fits), Cond.selects (cz_on 12) (cz_nm mX12_fits) (cz_nm mX12_fits), Cond.code (cz_nm mX12_fits) (cz_cc mX12_fits) (cz_nL mX12_fits) (cz_rt mX12_fits), Cond.methodLink (cz_on 12) 485 (cz_nm mX12_isSlice), Cond.instanceMethod (cz_nm mX12_isSlice), Cond.code (cz_nm mX12_isSlice) (cz_cc mX12_isSlice) (cz_nL mX12_isSlice) (cz_rt mX12_isSlice)]) rfl (bw_g bw_s8) (by decide +kernel)
set_option maxRecDepth 20000 in
theorem bq40 : Cond.methodLink (cz_on 12) 488 (cz_nm mX12_fitsNow) ∈ cz_T ∧ Cond.instanceMethod (cz_nm mX12_fitsNow) ∈ cz_T ∧ Cond.code (cz_nm mX12_fitsNow) (cz_cc mX12_fitsNow) (cz_nL mX12_fitsNow) (cz_rt mX12_fitsNow) ∈ cz_T ∧ Cond.methodLink (cz_on 13) 132 (cz_nm mX12_by) ∈ cz_T ∧ Cond.instanceMethod (cz_nm mX12_by) ∈ cz_T ∧ Cond.selects (cz_on 12) (cz_nm mX12_by) (cz_nm mX12_by) ∈ cz_T ∧ Cond.code (cz_nm mX12_by) (cz_cc mX12_by) (cz_nL mX12_by) (cz_rt mX12_by) ∈ cz_T ∧ Cond.methodLink (cz_on 13) 136 (cz_nm mX12_nights) ∈ cz_T ∧ Cond.instanceMethod (cz_nm mX12_nights) ∈ cz_T ∧ Cond.selects (cz_on 12) (cz_nm mX12_nights) (cz_nm mX12_nights) ∈ cz_T ∧ Cond.code (cz_nm mX12_nights) (cz_cc mX12_nights) (cz_nL mX12_nights) (cz_rt mX12_nights) ∈ cz_T ∧ Cond.constant (cz_on 12) 503 (65536) ∈ cz_T ∧ Cond.methodLink (cz_on 12) 504 (cz_nm mX12_draws) ∈ cz_T ∧ Cond.instanceMethod (cz_nm mX12_draws) ∈ cz_T ∧ Cond.code (cz_nm mX12_draws) (cz_cc mX12_draws) (cz_nL mX12_draws) (cz_rt mX12_draws) ∈ cz_T ∧ Cond.methodLink (cz_on 12) 497 (cz_nm mX12_drawOf) ∈ cz_T ∧ Cond.instanceMethod (cz_nm mX12_drawOf) ∈ cz_T ∧ Cond.code (cz_nm mX12_drawOf) (cz_cc mX12_drawOf) (cz_nL mX12_drawOf) (cz_rt mX12_drawOf) ∈ cz_T ∧ Cond.constantLong (cz_on 12) 491 (75) ∈ cz_T ∧ Cond.constantLong (cz_on 12) 493 (74) ∈ cz_T ∧ Cond.constantLong (cz_on 12) 495 (65537) ∈ cz_T ∧ Cond.methodLink (cz_on 12) 500 (cz_nm mX12_comes) ∈ cz_T ∧ Cond.instanceMethod (cz_nm mX12_comes) ∈ cz_T ∧ Cond.code (cz_nm mX12_comes) (cz_cc mX12_comes) (cz_nL mX12_comes) (cz_rt mX12_comes) ∈ cz_T ∧ Cond.methodLink (cz_on 13) 141 (cz_nm mX12_call) ∈ cz_T ∧ Cond.instanceMethod (cz_nm mX12_call) ∈ cz_T ∧ Cond.selects (cz_on 12) (cz_nm mX12_call) (cz_nm mX12_call) ∈ cz_T ∧ Cond.code (cz_nm mX12_call) (cz_cc mX12_call) (cz_nL mX12_call) (cz_rt mX12_call) ∈ cz_T ∧ Cond.methodLink (cz_on 12) 507 (cz_nm mX12_denied) ∈ cz_T ∧ Cond.instanceMethod (cz_nm mX12_denied) ∈ cz_T ∧ True := bw_okT (gs := [172, 1, 0, 0, 0, 0, 0, 0, 0, 0, 0, 0, 0, 1, 0, 0, 1, 0, 0, 0, 0, 0, 1, 0, 0, 0, 0, 0, 0, 1]) (L := tables_1_8) (ws := [Cond.methodLink (cz_on 12) 488 (cz_nm mX12_fitsNow), Cond.instanceMethod (cz_nm mX12_fitsNow), Cond.code (cz_nm mX12_fitsNow) (cz_cc mX12_fitsNow) (cz_nL mX12_fitsNow) (cz_rt mX12_fitsNow), Cond.methodLink (cz_on 13) 132 (cz_nm mX12_by), Cond.instanceMethod (cz_nm mX12_by), Cond.selects (cz_on 12) (cz_nm mX12_by) (cz_nm mX12_by), Cond.code (cz_nm mX12_by) (cz_cc mX12_by) (cz_nL mX12_by) (cz_rt mX12_by), Cond.methodLink (cz_on 13) 136 (cz_nm mX12_nights), Cond.instanceMethod (cz_nm mX12_nights), Cond.selects (cz_on 12) (cz_nm mX12_nights) (cz_nm mX12_nights), Cond.code (cz_nm mX12_nights) (cz_cc mX12_nights) (cz_nL mX12_nights) (cz_rt mX12_nights), Cond.constant (cz_on 12) 503 (65536), Cond.methodLink (cz_on 12) 504 (cz_nm mX12_draws), Cond.instanceMethod (cz_nm mX12_draws), Cond.code (cz_nm mX12_draws) (cz_cc mX12_draws) (cz_nL mX12_draws) (cz_rt mX12_draws), Cond.methodLink (cz_on 12) 497 (cz_nm mX12_drawOf), Cond.instanceMethod (cz_nm mX12_drawOf), Cond.code (cz_nm mX12_drawOf) (cz_cc mX12_drawOf) (cz_nL mX12_drawOf) (cz_rt mX12_drawOf), Cond.constantLong (cz_on 12) 491 (75), Cond.constantLong (cz_on 12) 493 (74), Cond.constantLong (cz_on 12) 495 (65537), Cond.methodLink (cz_on 12) 500 (cz_nm mX12_comes), Cond.instanceMethod (cz_nm mX12_comes), Cond.code (cz_nm mX12_comes) (cz_cc mX12_comes) (cz_nL mX12_comes) (cz_rt mX12_comes), Cond.methodLink (cz_on 13) 141 (cz_nm mX12_call), Cond.instanceMethod (cz_nm mX12_call), Cond.selects (cz_on 12) (cz_nm mX12_call) (cz_nm mX12_call), Cond.code (cz_nm mX12_call) (cz_cc mX12_call) (cz_nL mX12_call) (cz_rt mX12_call), Cond.methodLink (cz_on 12) 507 (cz_nm mX12_denied), Cond.instanceMethod (cz_nm mX12_denied)]) rfl (bw_g bw_s8) (by decide +kernel)
set_option maxRecDepth 20000 in
theorem bq41 : Cond.code (cz_nm mX12_denied) (cz_cc mX12_denied) (cz_nL mX12_denied) (cz_rt mX12_denied) ∈ cz_T ∧ Cond.methodLink (cz_on 12) 510 (cz_nm mX12_keeps) ∈ cz_T ∧ Cond.instanceMethod (cz_nm mX12_keeps) ∈ cz_T ∧ Cond.code (cz_nm mX12_keeps) (cz_cc mX12_keeps) (cz_nL mX12_keeps) (cz_rt mX12_keeps) ∈ cz_T ∧ Cond.methodLink (cz_on 12) 513 (cz_nm mX12_granted) ∈ cz_T ∧ Cond.instanceMethod (cz_nm mX12_granted) ∈ cz_T ∧ Cond.code (cz_nm mX12_granted) (cz_cc mX12_granted) (cz_nL mX12_granted) (cz_rt mX12_granted) ∈ cz_T ∧ Cond.methodLink (cz_on 13) 145 (cz_nm mX12_calls) ∈ cz_T ∧ Cond.instanceMethod (cz_nm mX12_calls) ∈ cz_T ∧ Cond.selects (cz_on 12) (cz_nm mX12_calls) (cz_nm mX12_calls) ∈ cz_T ∧ Cond.code (cz_nm mX12_calls) (cz_cc mX12_calls) (cz_nL mX12_calls) (cz_rt mX12_calls) ∈ cz_T ∧ Cond.methodLink (cz_on 13) 150 (cz_nm mX12_cloud) ∈ cz_T ∧ Cond.instanceMethod (cz_nm mX12_cloud) ∈ cz_T ∧ Cond.selects (cz_on 12) (cz_nm mX12_cloud) (cz_nm mX12_cloud) ∈ cz_T ∧ Cond.code (cz_nm mX12_cloud) (cz_cc mX12_cloud) (cz_nL mX12_cloud) (cz_rt mX12_cloud) ∈ cz_T ∧ Cond.methodLink (cz_on 13) 154 (cz_nm mX12_draw) ∈ cz_T ∧ Cond.instanceMethod (cz_nm mX12_draw) ∈ cz_T ∧ Cond.selects (cz_on 12) (cz_nm mX12_draw) (cz_nm mX12_draw) ∈ cz_T ∧ Cond.code (cz_nm mX12_draw) (cz_cc mX12_draw) (cz_nL mX12_draw) (cz_rt mX12_draw) ∈ cz_T ∧ Cond.methodLink (cz_on 13) 159 (cz_nm mX12_lift) ∈ cz_T ∧ Cond.instanceMethod (cz_nm mX12_lift) ∈ cz_T ∧ Cond.selects (cz_on 12) (cz_nm mX12_lift) (cz_nm mX12_lift) ∈ cz_T ∧ Cond.code (cz_nm mX12_lift) (cz_cc mX12_lift) (cz_nL mX12_lift) (cz_rt mX12_lift) ∈ cz_T ∧ Cond.methodLink (cz_on 13) 164 (cz_nm mX12_seed) ∈ cz_T ∧ Cond.instanceMethod (cz_nm mX12_seed) ∈ cz_T ∧ Cond.selects (cz_on 12) (cz_nm mX12_seed) (cz_nm mX12_seed) ∈ cz_T ∧ Cond.code (cz_nm mX12_seed) (cz_cc mX12_seed) (cz_nL mX12_seed) (cz_rt mX12_seed) ∈ cz_T ∧ Cond.methodLink (cz_on 13) 168 (cz_nm mX12_undo) ∈ cz_T ∧ Cond.instanceMethod (cz_nm mX12_undo) ∈ cz_T ∧ Cond.selects (cz_on 12) (cz_nm mX12_undo) (cz_nm mX12_undo) ∈ cz_T ∧ True := bw_okT (gs := [207, 0, 1, 0, 0, 1, 0, 0, 0, 0, 0, 0, 0, 0, 0, 0, 0, 0, 0, 0, 0, 0, 0, 0, 0, 0, 0, 0, 0, 0]) (L := tables_1_8) (ws := [Cond.code (cz_nm mX12_denied) (cz_cc mX12_denied) (cz_nL mX12_denied) (cz_rt mX12_denied), Cond.methodLink (cz_on 12) 510 (cz_nm mX12_keeps), Cond.instanceMethod (cz_nm mX12_keeps), Cond.code (cz_nm mX12_keeps) (cz_cc mX12_keeps) (cz_nL mX12_keeps) (cz_rt mX12_keeps), Cond.methodLink (cz_on 12) 513 (cz_nm mX12_granted), Cond.instanceMethod (cz_nm mX12_granted), Cond.code (cz_nm mX12_granted) (cz_cc mX12_granted) (cz_nL mX12_granted) (cz_rt mX12_granted), Cond.methodLink (cz_on 13) 145 (cz_nm mX12_calls), Cond.instanceMethod (cz_nm mX12_calls), Cond.selects (cz_on 12) (cz_nm mX12_calls) (cz_nm mX12_calls), Cond.code (cz_nm mX12_calls) (cz_cc mX12_calls) (cz_nL mX12_calls) (cz_rt mX12_calls), Cond.methodLink (cz_on 13) 150 (cz_nm mX12_cloud), Cond.instanceMethod (cz_nm mX12_cloud), Cond.selects (cz_on 12) (cz_nm mX12_cloud) (cz_nm mX12_cloud), Cond.code (cz_nm mX12_cloud) (cz_cc mX12_cloud) (cz_nL mX12_cloud) (cz_rt mX12_cloud), Cond.methodLink (cz_on 13) 154 (cz_nm mX12_draw), Cond.instanceMethod (cz_nm mX12_draw), Cond.selects (cz_on 12) (cz_nm mX12_draw) (cz_nm mX12_draw), Cond.code (cz_nm mX12_draw) (cz_cc mX12_draw) (cz_nL mX12_draw) (cz_rt mX12_draw), Cond.methodLink (cz_on 13) 159 (cz_nm mX12_lift), Cond.instanceMethod (cz_nm mX12_lift), Cond.selects (cz_on 12) (cz_nm mX12_lift) (cz_nm mX12_lift), Cond.code (cz_nm mX12_lift) (cz_cc mX12_lift) (cz_nL mX12_lift) (cz_rt mX12_lift), Cond.methodLink (cz_on 13) 164 (cz_nm mX12_seed), Cond.instanceMethod (cz_nm mX12_seed), Cond.selects (cz_on 12) (cz_nm mX12_seed) (cz_nm mX12_seed), Cond.code (cz_nm mX12_seed) (cz_cc mX12_seed) (cz_nL mX12_seed) (cz_rt mX12_seed), Cond.methodLink (cz_on 13) 168 (cz_nm mX12_undo), Cond.instanceMethod (cz_nm mX12_undo), Cond.selects (cz_on 12) (cz_nm mX12_undo) (cz_nm mX12_undo)]) rfl (bw_g bw_s8) (by decide +kernel)
set_option maxRecDepth 20000 in
theorem bq42 : Cond.code (cz_nm mX12_undo) (cz_cc mX12_undo) (cz_nL mX12_undo) (cz_rt mX12_undo) ∈ cz_T ∧ True := bw_okT (gs := [239]) (L := tables_1_8) (ws := [Cond.code (cz_nm mX12_undo) (cz_cc mX12_undo) (cz_nL mX12_undo) (cz_rt mX12_undo)]) rfl (bw_g bw_s8) (by decide +kernel)
set_option maxRecDepth 20000 in
theorem bq43 : Cond.methodLink (cz_on 13) 172 (cz_nm mX12_mark) ∈ cz_T ∧ Cond.instanceMethod (cz_nm mX12_mark) ∈ cz_T ∧ Cond.selects (cz_on 12) (cz_nm mX12_mark) (cz_nm mX12_mark) ∈ cz_T ∧ Cond.code (cz_nm mX12_mark) (cz_cc mX12_mark) (cz_nL mX12_mark) (cz_rt mX12_mark) ∈ cz_T ∧ Cond.methodLink (cz_on 13) 176 (cz_nm mX12_back) ∈ cz_T ∧ Cond.instanceMethod (cz_nm mX12_back) ∈ cz_T ∧ Cond.selects (cz_on 12) (cz_nm mX12_back) (cz_nm mX12_back) ∈ cz_T ∧ Cond.code (cz_nm mX12_back) (cz_cc mX12_back) (cz_nL mX12_back) (cz_rt mX12_back) ∈ cz_T ∧ Cond.methodLink (cz_on 13) 180 (cz_nm mX12_event) ∈ cz_T ∧ Cond.instanceMethod (cz_nm mX12_event) ∈ cz_T ∧ Cond.selects (cz_on 12) (cz_nm mX12_event) (cz_nm mX12_event) ∈ cz_T ∧ Cond.code (cz_nm mX12_event) (cz_cc mX12_event) (cz_nL mX12_event) (cz_rt mX12_event) ∈ cz_T ∧ Cond.methodLink (cz_on 13) 186 (cz_nm mX12_led) ∈ cz_T ∧ Cond.instanceMethod (cz_nm mX12_led) ∈ cz_T ∧ Cond.selects (cz_on 12) (cz_nm mX12_led) (cz_nm mX12_led) ∈ cz_T ∧ Cond.code (cz_nm mX12_led) (cz_cc mX12_led) (cz_nL mX12_led) (cz_rt mX12_led) ∈ cz_T ∧ Cond.methodLink (cz_on 13) 190 (cz_nm mX12_size) ∈ cz_T ∧ Cond.instanceMethod (cz_nm mX12_size) ∈ cz_T ∧ Cond.selects (cz_on 12) (cz_nm mX12_size) (cz_nm mX12_size) ∈ cz_T ∧ Cond.code (cz_nm mX12_size) (cz_cc mX12_size) (cz_nL mX12_size) (cz_rt mX12_size) ∈ cz_T ∧ Cond.methodLink (cz_on 13) 194 (cz_nm mX12_trouble) ∈ cz_T ∧ Cond.instanceMethod (cz_nm mX12_trouble) ∈ cz_T ∧ Cond.selects (cz_on 12) (cz_nm mX12_trouble) (cz_nm mX12_trouble) ∈ cz_T ∧ Cond.code (cz_nm mX12_trouble) (cz_cc mX12_trouble) (cz_nL mX12_trouble) (cz_rt mX12_trouble) ∈ cz_T ∧ True := bw_okT (gs := [0, 0, 0, 0, 0, 0, 0, 0, 0, 0, 0, 0, 0, 0, 0, 0, 0, 0, 0, 0, 0, 0, 0, 0]) (L := tables_1_9) (ws := [Cond.methodLink (cz_on 13) 172 (cz_nm mX12_mark), Cond.instanceMethod (cz_nm mX12_mark), Cond.selects (cz_on 12) (cz_nm mX12_mark) (cz_nm mX12_mark), Cond.code (cz_nm mX12_mark) (cz_cc mX12_mark) (cz_nL mX12_mark) (cz_rt mX12_mark), Cond.methodLink (cz_on 13) 176 (cz_nm mX12_back), Cond.instanceMethod (cz_nm mX12_back), Cond.selects (cz_on 12) (cz_nm mX12_back) (cz_nm mX12_back), Cond.code (cz_nm mX12_back) (cz_cc mX12_back) (cz_nL mX12_back) (cz_rt mX12_back), Cond.methodLink (cz_on 13) 180 (cz_nm mX12_event), Cond.instanceMethod (cz_nm mX12_event), Cond.selects (cz_on 12) (cz_nm mX12_event) (cz_nm mX12_event), Cond.code (cz_nm mX12_event) (cz_cc mX12_event) (cz_nL mX12_event) (cz_rt mX12_event), Cond.methodLink (cz_on 13) 186 (cz_nm mX12_led), Cond.instanceMethod (cz_nm mX12_led), Cond.selects (cz_on 12) (cz_nm mX12_led) (cz_nm mX12_led), Cond.code (cz_nm mX12_led) (cz_cc mX12_led) (cz_nL mX12_led) (cz_rt mX12_led), Cond.methodLink (cz_on 13) 190 (cz_nm mX12_size), Cond.instanceMethod (cz_nm mX12_size), Cond.selects (cz_on 12) (cz_nm mX12_size) (cz_nm mX12_size), Cond.code (cz_nm mX12_size) (cz_cc mX12_size) (cz_nL mX12_size) (cz_rt mX12_size), Cond.methodLink (cz_on 13) 194 (cz_nm mX12_trouble), Cond.instanceMethod (cz_nm mX12_trouble), Cond.selects (cz_on 12) (cz_nm mX12_trouble) (cz_nm mX12_trouble), Cond.code (cz_nm mX12_trouble) (cz_cc mX12_trouble) (cz_nL mX12_trouble) (cz_rt mX12_trouble)]) rfl (bw_g bw_s9) (by decide +kernel)
theorem pd0 : (parseMethodDescriptor "()V").map (fun d => d.parameters.length) = some 0 := by decide +kernel
theorem pd1 : (parseMethodDescriptor "(I)I").map (fun d => d.parameters.length) = some 1 := by decide +kernel
theorem pd2 : (parseMethodDescriptor "(LEclipseCheese$Held;)V").map (fun d => d.parameters.length) = some 1 := by decide +kernel
theorem pd3 : (parseMethodDescriptor "(II)V").map (fun d => d.parameters.length) = some 2 := by decide +kernel
theorem pd4 : (parseMethodDescriptor "(I)Z").map (fun d => d.parameters.length) = some 1 := by decide +kernel
theorem pd5 : (parseMethodDescriptor "(LEclipseCheese$Alp;LEclipseCheese$Sky;)V").map (fun d => d.parameters.length) = some 2 := by decide +kernel
theorem pd6 : (parseMethodDescriptor "(LEclipseCheese$Alp;LEclipseCheese$Sky;II)V").map (fun d => d.parameters.length) = some 4 := by decide +kernel
theorem pd7 : (parseMethodDescriptor "(II)I").map (fun d => d.parameters.length) = some 2 := by decide +kernel
theorem pd8 : (parseMethodDescriptor "(IIII)I").map (fun d => d.parameters.length) = some 4 := by decide +kernel
theorem pd9 : (parseMethodDescriptor "(III)V").map (fun d => d.parameters.length) = some 3 := by decide +kernel
theorem pd10 : (parseMethodDescriptor "(II)Z").map (fun d => d.parameters.length) = some 2 := by decide +kernel
theorem pd11 : (parseMethodDescriptor "(LEclipseCheese$Minutes;)I").map (fun d => d.parameters.length) = some 1 := by decide +kernel
theorem pd12 : (parseMethodDescriptor "(ILEclipseCheese$Minutes;)Z").map (fun d => d.parameters.length) = some 2 := by decide +kernel
theorem pd13 : (parseMethodDescriptor "()Z").map (fun d => d.parameters.length) = some 0 := by decide +kernel
theorem pd14 : (parseMethodDescriptor "()I").map (fun d => d.parameters.length) = some 0 := by decide +kernel
theorem pd15 : (parseMethodDescriptor "(LEclipseCheese$Held;)Z").map (fun d => d.parameters.length) = some 1 := by decide +kernel
theorem pd16 : (parseMethodDescriptor "(LEclipseCheese$Held;)I").map (fun d => d.parameters.length) = some 1 := by decide +kernel
theorem pd17 : (parseMethodDescriptor "(LEclipseCheese$Held;I)Z").map (fun d => d.parameters.length) = some 2 := by decide +kernel
theorem pd18 : (parseMethodDescriptor "([BLEclipseCheese$Alp;)V").map (fun d => d.parameters.length) = some 2 := by decide +kernel
theorem pd19 : (parseMethodDescriptor "(LEclipseCheese$Alp;I)Z").map (fun d => d.parameters.length) = some 2 := by decide +kernel
theorem pd20 : (parseMethodDescriptor "(Ljava/lang/String;)J").map (fun d => d.parameters.length) = some 1 := by decide +kernel
theorem pd21 : (parseMethodDescriptor "(Ljava/lang/String;)Z").map (fun d => d.parameters.length) = some 1 := by decide +kernel
theorem pd22 : (parseMethodDescriptor "(I)Ljava/lang/String;").map (fun d => d.parameters.length) = some 1 := by decide +kernel
theorem pd23 : (parseMethodDescriptor "(LEclipseCheese$Turner;)Z").map (fun d => d.parameters.length) = some 1 := by decide +kernel
theorem pd24 : (parseMethodDescriptor "(LEclipseCheese$Minutes;)Z").map (fun d => d.parameters.length) = some 1 := by decide +kernel
theorem pd25 : (parseMethodDescriptor "(LEclipseCheese$Alp;LEclipseCheese$Held;I)V").map (fun d => d.parameters.length) = some 3 := by decide +kernel
theorem pd26 : (parseMethodDescriptor "(LEclipseCheese$Event;)V").map (fun d => d.parameters.length) = some 1 := by decide +kernel
theorem pd27 : (parseMethodDescriptor "(LEclipseCheese$Minutes;)V").map (fun d => d.parameters.length) = some 1 := by decide +kernel
theorem pd28 : (parseMethodDescriptor "(IIIII)I").map (fun d => d.parameters.length) = some 5 := by decide +kernel
theorem pd29 : (parseMethodDescriptor "(IIZ)I").map (fun d => d.parameters.length) = some 3 := by decide +kernel
theorem pd30 : (parseMethodDescriptor "(IZ)I").map (fun d => d.parameters.length) = some 2 := by decide +kernel
theorem pd31 : (parseMethodDescriptor "(III)I").map (fun d => d.parameters.length) = some 3 := by decide +kernel
theorem pd32 : (parseMethodDescriptor "(IZ)Z").map (fun d => d.parameters.length) = some 2 := by decide +kernel
theorem pd33 : (parseMethodDescriptor "(I)V").map (fun d => d.parameters.length) = some 1 := by decide +kernel
theorem pd34 : (parseMethodDescriptor "()LEclipseCheese$Sky;").map (fun d => d.parameters.length) = some 0 := by decide +kernel
theorem pd35 : (parseMethodDescriptor "()LEclipseCheese$Night;").map (fun d => d.parameters.length) = some 0 := by decide +kernel
theorem pd36 : (parseMethodDescriptor "(J)I").map (fun d => d.parameters.length) = some 1 := by decide +kernel
theorem pd37 : (parseMethodDescriptor "(III)Z").map (fun d => d.parameters.length) = some 3 := by decide +kernel
theorem pd38 : (parseMethodDescriptor "(Ljava/lang/String;)V").map (fun d => d.parameters.length) = some 1 := by decide +kernel
theorem pd39 : (parseMethodDescriptor "(Ljava/lang/String;II)I").map (fun d => d.parameters.length) = some 3 := by decide +kernel
theorem pd40 : (parseMethodDescriptor "()J").map (fun d => d.parameters.length) = some 0 := by decide +kernel
theorem pd41 : (parseMethodDescriptor "(JII)V").map (fun d => d.parameters.length) = some 3 := by decide +kernel
theorem pd42 : (parseMethodDescriptor "([III)I").map (fun d => d.parameters.length) = some 3 := by decide +kernel
theorem pd43 : (parseMethodDescriptor "(I)C").map (fun d => d.parameters.length) = some 1 := by decide +kernel
theorem pd44 : (parseMethodDescriptor "()B").map (fun d => d.parameters.length) = some 0 := by decide +kernel
theorem pd45 : (parseMethodDescriptor "([BI)C").map (fun d => d.parameters.length) = some 2 := by decide +kernel
theorem pd46 : (parseMethodDescriptor "([II)V").map (fun d => d.parameters.length) = some 2 := by decide +kernel
theorem pd47 : (parseMethodDescriptor "(IILjava/util/function/BiFunction;)I").map (fun d => d.parameters.length) = some 3 := by decide +kernel
theorem nv0 : cz_on 0 ≠ "java/lang/invoke/MethodHandle" := by decide +kernel
theorem nw0 : cz_on 0 ≠ "java/lang/invoke/VarHandle" := by decide +kernel
theorem nv1 : cz_on 1 ≠ "java/lang/invoke/MethodHandle" := by decide +kernel
theorem nw1 : cz_on 1 ≠ "java/lang/invoke/VarHandle" := by decide +kernel
theorem nv2 : cz_on 2 ≠ "java/lang/invoke/MethodHandle" := by decide +kernel
theorem nw2 : cz_on 2 ≠ "java/lang/invoke/VarHandle" := by decide +kernel
theorem nv3 : cz_on 3 ≠ "java/lang/invoke/MethodHandle" := by decide +kernel
theorem nw3 : cz_on 3 ≠ "java/lang/invoke/VarHandle" := by decide +kernel
theorem nv4 : cz_on 4 ≠ "java/lang/invoke/MethodHandle" := by decide +kernel
theorem nw4 : cz_on 4 ≠ "java/lang/invoke/VarHandle" := by decide +kernel
theorem nv5 : cz_on 5 ≠ "java/lang/invoke/MethodHandle" := by decide +kernel
theorem nw5 : cz_on 5 ≠ "java/lang/invoke/VarHandle" := by decide +kernel
theorem nv6 : cz_on 6 ≠ "java/lang/invoke/MethodHandle" := by decide +kernel
theorem nw6 : cz_on 6 ≠ "java/lang/invoke/VarHandle" := by decide +kernel
theorem nv7 : cz_on 7 ≠ "java/lang/invoke/MethodHandle" := by decide +kernel
theorem nw7 : cz_on 7 ≠ "java/lang/invoke/VarHandle" := by decide +kernel
theorem nv8 : cz_on 8 ≠ "java/lang/invoke/MethodHandle" := by decide +kernel
theorem nw8 : cz_on 8 ≠ "java/lang/invoke/VarHandle" := by decide +kernel
theorem nv9 : cz_on 9 ≠ "java/lang/invoke/MethodHandle" := by decide +kernel
theorem nw9 : cz_on 9 ≠ "java/lang/invoke/VarHandle" := by decide +kernel
theorem nv10 : cz_on 10 ≠ "java/lang/invoke/MethodHandle" := by decide +kernel
theorem nw10 : cz_on 10 ≠ "java/lang/invoke/VarHandle" := by decide +kernel
theorem nv11 : cz_on 11 ≠ "java/lang/invoke/MethodHandle" := by decide +kernel
theorem nw11 : cz_on 11 ≠ "java/lang/invoke/VarHandle" := by decide +kernel
theorem nv12 : cz_on 12 ≠ "java/lang/invoke/MethodHandle" := by decide +kernel
theorem nw12 : cz_on 12 ≠ "java/lang/invoke/VarHandle" := by decide +kernel
theorem nv14 : cz_on 14 ≠ "java/lang/invoke/MethodHandle" := by decide +kernel
theorem nw14 : cz_on 14 ≠ "java/lang/invoke/VarHandle" := by decide +kernel
theorem nv15 : cz_on 15 ≠ "java/lang/invoke/MethodHandle" := by decide +kernel
theorem nw15 : cz_on 15 ≠ "java/lang/invoke/VarHandle" := by decide +kernel
theorem nv16 : cz_on 16 ≠ "java/lang/invoke/MethodHandle" := by decide +kernel
theorem nw16 : cz_on 16 ≠ "java/lang/invoke/VarHandle" := by decide +kernel
theorem nv17 : cz_on 17 ≠ "java/lang/invoke/MethodHandle" := by decide +kernel
theorem nw17 : cz_on 17 ≠ "java/lang/invoke/VarHandle" := by decide +kernel
theorem nv18 : cz_on 18 ≠ "java/lang/invoke/MethodHandle" := by decide +kernel
theorem nw18 : cz_on 18 ≠ "java/lang/invoke/VarHandle" := by decide +kernel
theorem nv19 : cz_on 19 ≠ "java/lang/invoke/MethodHandle" := by decide +kernel
theorem nw19 : cz_on 19 ≠ "java/lang/invoke/VarHandle" := by decide +kernel
theorem cz_oi : Cond.instanceMethod objectInit ∈ cz_T := bq5.2.2.2.2.2.2.2.2.2.2.2.2.2.2.2.2.2.2.2.2.2.2.2.2.2.2.1
theorem cz_oc : Cond.code objectInit ⟨#[0xb1]⟩ 1 none ∈ cz_T := bq5.2.2.2.2.2.2.2.2.2.2.2.2.2.2.2.2.2.2.2.2.2.2.2.2.2.2.2.1
theorem ini10 : Cond.initialized (cz_on 10) ∈ cz_T := bq5.2.1
theorem ini0 : Cond.initialized (cz_on 0) ∈ cz_T := bq5.2.2.1
theorem ini1 : Cond.initialized (cz_on 1) ∈ cz_T := bq5.2.2.2.2.2.2.1
theorem ini2 : Cond.initialized (cz_on 2) ∈ cz_T := bq5.2.2.2.2.1
theorem ini3 : Cond.initialized (cz_on 3) ∈ cz_T := bq5.2.2.2.2.2.2.2.2.1
theorem ini4 : Cond.initialized (cz_on 4) ∈ cz_T := bq5.2.2.2.1
theorem ini5 : Cond.initialized (cz_on 5) ∈ cz_T := bq5.2.2.2.2.2.2.2.2.2.2.2.1
theorem ini6 : Cond.initialized (cz_on 6) ∈ cz_T := bq5.2.2.2.2.2.2.2.2.2.1
theorem ini7 : Cond.initialized (cz_on 7) ∈ cz_T := bq5.2.2.2.2.2.2.2.1
theorem ini8 : Cond.initialized (cz_on 8) ∈ cz_T := bq5.2.2.2.2.2.2.2.2.2.2.1
theorem ini9 : Cond.initialized (cz_on 9) ∈ cz_T := bq5.2.2.2.2.2.1
theorem ini13 : Cond.initialized (cz_on 13) ∈ cz_T := bq5.1
theorem ini12 : Cond.initialized (cz_on 12) ∈ cz_T := bq5.2.2.2.2.2.2.2.2.2.2.2.2.1
theorem ini11 : Cond.initialized (cz_on 11) ∈ cz_T := bq5.2.2.2.2.2.2.2.2.2.2.2.2.2.2.2.2.1
theorem ini14 : Cond.initialized (cz_on 14) ∈ cz_T := bq5.2.2.2.2.2.2.2.2.2.2.2.2.2.2.2.2.2.2.2.1
theorem ini15 : Cond.initialized (cz_on 15) ∈ cz_T := bq5.2.2.2.2.2.2.2.2.2.2.2.2.2.2.2.2.2.2.1
theorem ini17 : Cond.initialized (cz_on 17) ∈ cz_T := bq5.2.2.2.2.2.2.2.2.2.2.2.2.2.1
theorem ini18 : Cond.initialized (cz_on 18) ∈ cz_T := bq5.2.2.2.2.2.2.2.2.2.2.2.2.2.2.1
theorem ini16 : Cond.initialized (cz_on 16) ∈ cz_T := bq5.2.2.2.2.2.2.2.2.2.2.2.2.2.2.2.2.2.1
theorem ini19 : Cond.initialized (cz_on 19) ∈ cz_T := bq5.2.2.2.2.2.2.2.2.2.2.2.2.2.2.2.1
theorem ins0 : Cond.instantiable (cz_on 0) (cz_nf 0) ∈ cz_T := bq5.2.2.2.2.2.2.2.2.2.2.2.2.2.2.2.2.2.2.2.2.2.2.2.2.2.2.2.2.2.1
theorem ins1 : Cond.instantiable (cz_on 1) (cz_nf 1) ∈ cz_T := bq6.2.2.2.2.2.2.2.2.2.2.2.2.2.2.2.2.2.2.2.2.2.2.1
theorem ins2 : Cond.instantiable (cz_on 2) (cz_nf 2) ∈ cz_T := bq6.2.2.2.2.2.2.2.2.2.2.2.2.2.2.1
theorem ins3 : Cond.instantiable (cz_on 3) (cz_nf 3) ∈ cz_T := bq8.2.2.1
theorem ins4 : Cond.instantiable (cz_on 4) (cz_nf 4) ∈ cz_T := bq6.2.2.2.2.2.2.1
theorem ins5 : Cond.instantiable (cz_on 5) (cz_nf 5) ∈ cz_T := bq8.2.2.2.2.2.2.2.2.2.2.2.2.2.2.2.2.2.2.2.2.1
theorem ins6 : Cond.instantiable (cz_on 6) (cz_nf 6) ∈ cz_T := bq8.2.2.2.2.2.2.2.1
theorem ins7 : Cond.instantiable (cz_on 7) (cz_nf 7) ∈ cz_T := bq6.2.2.2.2.2.2.2.2.2.2.2.2.2.2.2.2.2.2.2.2.2.2.2.2.2.2.2.1
theorem ins8 : Cond.instantiable (cz_on 8) (cz_nf 8) ∈ cz_T := bq8.2.2.2.2.2.2.2.2.2.2.2.2.2.2.1
theorem ins9 : Cond.instantiable (cz_on 9) (cz_nf 9) ∈ cz_T := bq6.2.2.2.2.2.2.2.2.2.2.2.2.2.2.2.2.2.2.1
theorem ins10 : Cond.instantiable (cz_on 10) (cz_nf 10) ∈ cz_T := bq5.2.2.2.2.2.2.2.2.2.2.2.2.2.2.2.2.2.2.2.2.2.1
theorem ins11 : Cond.instantiable (cz_on 11) (cz_nf 11) ∈ cz_T := bq29.2.2.2.2.2.2.2.2.2.2.2.2.2.2.2.2.2.2.1
theorem ins12 : Cond.instantiable (cz_on 12) (cz_nf 12) ∈ cz_T := bq29.2.1
theorem arc_byte : Cond.arrayClass (newarray.typeOf .byte) ∈ cz_T := bq6.2.2.2.2.2.2.2.2.2.2.1
theorem arc_int : Cond.arrayClass (newarray.typeOf .int) ∈ cz_T := bq6.2.2.2.2.2.2.2.2.2.2.2.1
theorem arc_long : Cond.arrayClass (newarray.typeOf .long) ∈ cz_T := bq8.1
theorem arc_boolean : Cond.arrayClass (newarray.typeOf .boolean) ∈ cz_T := bq8.2.2.2.2.2.2.2.2.2.2.2.2.2.2.2.2.2.2.1
theorem myX0_init : cz_my mX0_init 0 0 := ⟨rfl, bq6.2.2.1, ini0, nv0, nw0, pd0⟩
theorem inX0_init : Cond.instanceMethod (cz_nm mX0_init) ∈ cz_T := bq6.2.1
theorem myX0_clear : cz_my mX0_clear 0 0 := ⟨rfl, bq9.2.2.2.2.2.2.2.2.2.2.2.2.2.2.2.2.2.2.2.2.2.1, ini0, nv0, nw0, pd0⟩
theorem inX0_clear : Cond.instanceMethod (cz_nm mX0_clear) ∈ cz_T := bq9.2.2.2.2.2.2.2.2.2.2.2.2.2.2.2.2.2.2.2.1
theorem seX0_clear : Cond.selects (cz_on 0) (cz_nm mX0_clear) (cz_nm mX0_clear) ∈ cz_T := bq9.2.2.2.2.2.2.2.2.2.2.2.2.2.2.2.2.2.2.2.2.1
theorem myX0_cheesesIn : cz_my mX0_cheesesIn 0 1 := ⟨rfl, bq16.2.2.2.2.2.2.2.2.2.2.2.2.2.2.2.2.2.2.2.2.2.2.2.2.2.1, ini0, nv0, nw0, pd1⟩
theorem inX0_cheesesIn : Cond.instanceMethod (cz_nm mX0_cheesesIn) ∈ cz_T := bq16.2.2.2.2.2.2.2.2.2.2.2.2.2.2.2.2.2.2.2.2.2.2.2.1
theorem seX0_cheesesIn : Cond.selects (cz_on 0) (cz_nm mX0_cheesesIn) (cz_nm mX0_cheesesIn) ∈ cz_T := bq16.2.2.2.2.2.2.2.2.2.2.2.2.2.2.2.2.2.2.2.2.2.2.2.2.1
theorem myX0_costOf : cz_my mX0_costOf 0 1 := ⟨rfl, bq19.2.2.2.2.2.2.2.2.2.2.2.2.2.2.2.2.2.1, ini0, nv0, nw0, pd1⟩
theorem inX0_costOf : Cond.instanceMethod (cz_nm mX0_costOf) ∈ cz_T := bq19.2.2.2.2.2.2.2.2.2.2.2.2.2.2.2.1
theorem seX0_costOf : Cond.selects (cz_on 0) (cz_nm mX0_costOf) (cz_nm mX0_costOf) ∈ cz_T := bq19.2.2.2.2.2.2.2.2.2.2.2.2.2.2.2.2.1
theorem myX1_init : cz_my mX1_init 1 0 := ⟨rfl, bq6.2.2.2.2.2.2.2.2.2.2.2.2.2.2.2.2.2.2.2.2.2.2.2.2.1, ini1, nv1, nw1, pd0⟩
theorem inX1_init : Cond.instanceMethod (cz_nm mX1_init) ∈ cz_T := bq6.2.2.2.2.2.2.2.2.2.2.2.2.2.2.2.2.2.2.2.2.2.2.2.1
theorem myX2_init : cz_my mX2_init 2 0 := ⟨rfl, bq6.2.2.2.2.2.2.2.2.2.2.2.2.2.2.2.2.1, ini2, nv2, nw2, pd0⟩
theorem inX2_init : Cond.instanceMethod (cz_nm mX2_init) ∈ cz_T := bq6.2.2.2.2.2.2.2.2.2.2.2.2.2.2.2.1
theorem myX3_init : cz_my mX3_init 3 0 := ⟨rfl, bq8.2.2.2.2.1, ini3, nv3, nw3, pd0⟩
theorem inX3_init : Cond.instanceMethod (cz_nm mX3_init) ∈ cz_T := bq8.2.2.2.1
theorem myX3_clear : cz_my mX3_clear 3 0 := ⟨rfl, bq14.2.2.2.2.2.1, ini3, nv3, nw3, pd0⟩
theorem inX3_clear : Cond.instanceMethod (cz_nm mX3_clear) ∈ cz_T := bq14.2.2.2.1
theorem seX3_clear : Cond.selects (cz_on 3) (cz_nm mX3_clear) (cz_nm mX3_clear) ∈ cz_T := bq14.2.2.2.2.1
theorem myX3_become : cz_my mX3_become 3 1 := ⟨rfl, bq25.2.2.2.2.2.2.2.2.2.2.2.2.2.2.2.2.2.2.2.2.2.2.2.2.2.2.1, ini3, nv3, nw3, pd2⟩
theorem inX3_become : Cond.instanceMethod (cz_nm mX3_become) ∈ cz_T := bq25.2.2.2.2.2.2.2.2.2.2.2.2.2.2.2.2.2.2.2.2.2.2.2.2.1
theorem seX3_become : Cond.selects (cz_on 3) (cz_nm mX3_become) (cz_nm mX3_become) ∈ cz_T := bq25.2.2.2.2.2.2.2.2.2.2.2.2.2.2.2.2.2.2.2.2.2.2.2.2.2.1
theorem myX3_add : cz_my mX3_add 3 2 := ⟨rfl, bq25.2.2.2.2.2.2.2.2.1, ini3, nv3, nw3, pd3⟩
theorem inX3_add : Cond.instanceMethod (cz_nm mX3_add) ∈ cz_T := bq25.2.2.2.2.2.2.1
theorem seX3_add : Cond.selects (cz_on 3) (cz_nm mX3_add) (cz_nm mX3_add) ∈ cz_T := bq25.2.2.2.2.2.2.2.1
theorem myX3_addDrawn : cz_my mX3_addDrawn 3 1 := ⟨rfl, bq24.2.2.2.2.2.2.2.2.2.2.2.2.2.2.2.2.2.2.2.2.2.2.2.2.2.2.2.1, ini3, nv3, nw3, pd1⟩
theorem inX3_addDrawn : Cond.instanceMethod (cz_nm mX3_addDrawn) ∈ cz_T := bq24.2.2.2.2.2.2.2.2.2.2.2.2.2.2.2.2.2.2.2.2.2.2.2.2.2.1
theorem seX3_addDrawn : Cond.selects (cz_on 3) (cz_nm mX3_addDrawn) (cz_nm mX3_addDrawn) ∈ cz_T := bq24.2.2.2.2.2.2.2.2.2.2.2.2.2.2.2.2.2.2.2.2.2.2.2.2.2.2.1
theorem myX3_drawBelow : cz_my mX3_drawBelow 3 1 := ⟨rfl, bq25.1, ini3, nv3, nw3, pd1⟩
theorem inX3_drawBelow : Cond.instanceMethod (cz_nm mX3_drawBelow) ∈ cz_T := bq24.2.2.2.2.2.2.2.2.2.2.2.2.2.2.2.2.2.2.2.2.2.2.2.2.2.2.2.2.2.1
theorem seX3_drawBelow : Cond.selects (cz_on 3) (cz_nm mX3_drawBelow) (cz_nm mX3_drawBelow) ∈ cz_T := bq2.1
theorem myX4_init : cz_my mX4_init 4 0 := ⟨rfl, bq6.2.2.2.2.2.2.2.2.1, ini4, nv4, nw4, pd0⟩
theorem inX4_init : Cond.instanceMethod (cz_nm mX4_init) ∈ cz_T := bq6.2.2.2.2.2.2.2.1
theorem myX4_holds : cz_my mX4_holds 4 1 := ⟨rfl, bq16.1, ini4, nv4, nw4, pd4⟩
theorem inX4_holds : Cond.instanceMethod (cz_nm mX4_holds) ∈ cz_T := bq15.2.2.2.2.2.2.2.2.2.2.2.2.2.2.2.2.2.2.2.2.2.2.2.2.2.2.2.2.1
theorem seX4_holds : Cond.selects (cz_on 4) (cz_nm mX4_holds) (cz_nm mX4_holds) ∈ cz_T := bq15.2.2.2.2.2.2.2.2.2.2.2.2.2.2.2.2.2.2.2.2.2.2.2.2.2.2.2.2.2.1
theorem myX5_init : cz_my mX5_init 5 2 := ⟨rfl, bq8.2.2.2.2.2.2.2.2.2.2.2.2.2.2.2.2.2.2.2.2.2.2.2.1, ini5, nv5, nw5, pd5⟩
theorem inX5_init : Cond.instanceMethod (cz_nm mX5_init) ∈ cz_T := bq8.2.2.2.2.2.2.2.2.2.2.2.2.2.2.2.2.2.2.2.2.2.2.1
theorem myX5_play : cz_my mX5_play 5 4 := ⟨rfl, bq17.2.2.2.2.2.2.2.2.2.2.2.2.2.2.2.2.1, ini5, nv5, nw5, pd6⟩
theorem inX5_play : Cond.instanceMethod (cz_nm mX5_play) ∈ cz_T := bq17.2.2.2.2.2.2.2.2.2.2.2.2.2.2.1
theorem seX5_play : Cond.selects (cz_on 5) (cz_nm mX5_play) (cz_nm mX5_play) ∈ cz_T := bq17.2.2.2.2.2.2.2.2.2.2.2.2.2.2.2.1
theorem myX5_forget : cz_my mX5_forget 5 0 := ⟨rfl, bq17.2.2.2.2.2.2.2.2.2.2.2.2.2.2.2.2.2.2.2.1, ini5, nv5, nw5, pd0⟩
theorem inX5_forget : Cond.instanceMethod (cz_nm mX5_forget) ∈ cz_T := bq17.2.2.2.2.2.2.2.2.2.2.2.2.2.2.2.2.2.2.1
theorem seX5_forget : Cond.selects (cz_on 5) (cz_nm mX5_forget) (cz_nm mX5_forget) ∈ cz_T := bq1.2.2.2.2.2.2.2.2.2.2.2.2.1
theorem myX5_turnAll : cz_my mX5_turnAll 5 2 := ⟨rfl, bq17.2.2.2.2.2.2.2.2.2.2.2.2.2.2.2.2.2.2.2.2.2.2.2.2.2.1, ini5, nv5, nw5, pd7⟩
theorem inX5_turnAll : Cond.instanceMethod (cz_nm mX5_turnAll) ∈ cz_T := bq17.2.2.2.2.2.2.2.2.2.2.2.2.2.2.2.2.2.2.2.2.2.2.2.2.1
theorem seX5_turnAll : Cond.selects (cz_on 5) (cz_nm mX5_turnAll) (cz_nm mX5_turnAll) ∈ cz_T := bq1.2.2.2.2.2.2.2.2.2.2.2.2.2.1
theorem myX5_turnSome : cz_my mX5_turnSome 5 4 := ⟨rfl, bq18.2.2.2.2.2.2.2.2.2.2.1, ini5, nv5, nw5, pd8⟩
theorem inX5_turnSome : Cond.instanceMethod (cz_nm mX5_turnSome) ∈ cz_T := bq18.2.2.2.2.2.2.2.2.2.1
theorem seX5_turnSome : Cond.selects (cz_on 5) (cz_nm mX5_turnSome) (cz_nm mX5_turnSome) ∈ cz_T := bq1.2.2.2.2.2.2.2.2.2.2.2.2.2.2.2.1
theorem myX5_judge : cz_my mX5_judge 5 3 := ⟨rfl, bq18.2.2.2.2.2.2.2.2.2.2.2.2.2.1, ini5, nv5, nw5, pd9⟩
theorem inX5_judge : Cond.instanceMethod (cz_nm mX5_judge) ∈ cz_T := bq18.2.2.2.2.2.2.2.2.2.2.2.2.1
theorem seX5_judge : Cond.selects (cz_on 5) (cz_nm mX5_judge) (cz_nm mX5_judge) ∈ cz_T := bq1.2.2.2.2.2.2.2.2.2.2.2.2.2.2.2.2.1
theorem myX5_isAwake : cz_my mX5_isAwake 5 2 := ⟨rfl, bq18.2.2.2.2.1, ini5, nv5, nw5, pd10⟩
theorem inX5_isAwake : Cond.instanceMethod (cz_nm mX5_isAwake) ∈ cz_T := bq18.2.2.1
theorem seX5_isAwake : Cond.selects (cz_on 5) (cz_nm mX5_isAwake) (cz_nm mX5_isAwake) ∈ cz_T := bq18.2.2.2.1
theorem myX5_isCalled : cz_my mX5_isCalled 5 2 := ⟨rfl, bq18.2.2.2.2.2.2.2.1, ini5, nv5, nw5, pd10⟩
theorem inX5_isCalled : Cond.instanceMethod (cz_nm mX5_isCalled) ∈ cz_T := bq18.2.2.2.2.2.2.1
theorem seX5_isCalled : Cond.selects (cz_on 5) (cz_nm mX5_isCalled) (cz_nm mX5_isCalled) ∈ cz_T := bq1.2.2.2.2.2.2.2.2.2.2.2.2.2.2.1
theorem myX5_noticedHuts : cz_my mX5_noticedHuts 5 2 := ⟨rfl, bq17.2.2.2.2.2.2.2.2.2.2.2.2.2.2.2.2.2.2.2.2.2.2.2.2.2.2.2.2.2.1, ini5, nv5, nw5, pd7⟩
theorem inX5_noticedHuts : Cond.instanceMethod (cz_nm mX5_noticedHuts) ∈ cz_T := bq17.2.2.2.2.2.2.2.2.2.2.2.2.2.2.2.2.2.2.2.2.2.2.2.2.2.2.2.1
theorem seX5_noticedHuts : Cond.selects (cz_on 5) (cz_nm mX5_noticedHuts) (cz_nm mX5_noticedHuts) ∈ cz_T := bq17.2.2.2.2.2.2.2.2.2.2.2.2.2.2.2.2.2.2.2.2.2.2.2.2.2.2.2.2.1
theorem myX5_minutesAwake : cz_my mX5_minutesAwake 5 1 := ⟨rfl, bq19.2.1, ini5, nv5, nw5, pd1⟩
theorem inX5_minutesAwake : Cond.instanceMethod (cz_nm mX5_minutesAwake) ∈ cz_T := bq18.2.2.2.2.2.2.2.2.2.2.2.2.2.2.2.2.2.2.2.2.2.2.2.2.2.2.2.2.2.1
theorem seX5_minutesAwake : Cond.selects (cz_on 5) (cz_nm mX5_minutesAwake) (cz_nm mX5_minutesAwake) ∈ cz_T := bq19.1
theorem myX5_turnerOf : cz_my mX5_turnerOf 5 2 := ⟨rfl, bq20.2.2.2.2.2.1, ini5, nv5, nw5, pd7⟩
theorem inX5_turnerOf : Cond.instanceMethod (cz_nm mX5_turnerOf) ∈ cz_T := bq20.2.2.2.1
theorem seX5_turnerOf : Cond.selects (cz_on 5) (cz_nm mX5_turnerOf) (cz_nm mX5_turnerOf) ∈ cz_T := bq20.2.2.2.2.1
theorem myX5_isTurned : cz_my mX5_isTurned 5 2 := ⟨rfl, bq20.2.2.2.2.2.2.2.2.2.2.2.2.2.2.2.2.1, ini5, nv5, nw5, pd10⟩
theorem inX5_isTurned : Cond.instanceMethod (cz_nm mX5_isTurned) ∈ cz_T := bq20.2.2.2.2.2.2.2.2.2.2.2.2.2.2.2.1
theorem seX5_isTurned : Cond.selects (cz_on 5) (cz_nm mX5_isTurned) (cz_nm mX5_isTurned) ∈ cz_T := bq1.2.2.2.2.2.2.2.2.2.2.2.2.2.2.2.2.2.2.2.1
theorem myX5_liesUp : cz_my mX5_liesUp 5 2 := ⟨rfl, bq20.2.2.2.2.2.2.2.2.2.2.2.2.2.1, ini5, nv5, nw5, pd10⟩
theorem inX5_liesUp : Cond.instanceMethod (cz_nm mX5_liesUp) ∈ cz_T := bq20.2.2.2.2.2.2.2.2.2.2.2.1
theorem seX5_liesUp : Cond.selects (cz_on 5) (cz_nm mX5_liesUp) (cz_nm mX5_liesUp) ∈ cz_T := bq20.2.2.2.2.2.2.2.2.2.2.2.2.1
theorem myX5_minuteOfVein : cz_my mX5_minuteOfVein 5 2 := ⟨rfl, bq21.2.2.2.1, ini5, nv5, nw5, pd7⟩
theorem inX5_minuteOfVein : Cond.instanceMethod (cz_nm mX5_minuteOfVein) ∈ cz_T := bq21.2.1
theorem seX5_minuteOfVein : Cond.selects (cz_on 5) (cz_nm mX5_minuteOfVein) (cz_nm mX5_minuteOfVein) ∈ cz_T := bq21.2.2.1
theorem myX5_cheesesWithVeins : cz_my mX5_cheesesWithVeins 5 1 := ⟨rfl, bq24.2.2.2.2.2.2.2.2.1, ini5, nv5, nw5, pd11⟩
theorem inX5_cheesesWithVeins : Cond.instanceMethod (cz_nm mX5_cheesesWithVeins) ∈ cz_T := bq24.2.2.2.2.2.2.1
theorem seX5_cheesesWithVeins : Cond.selects (cz_on 5) (cz_nm mX5_cheesesWithVeins) (cz_nm mX5_cheesesWithVeins) ∈ cz_T := bq24.2.2.2.2.2.2.2.1
theorem myX5_hasJustVeins : cz_my mX5_hasJustVeins 5 2 := ⟨rfl, bq24.2.2.2.2.2.2.2.2.2.2.2.1, ini5, nv5, nw5, pd12⟩
theorem inX5_hasJustVeins : Cond.instanceMethod (cz_nm mX5_hasJustVeins) ∈ cz_T := bq24.2.2.2.2.2.2.2.2.2.2.1
theorem seX5_hasJustVeins : Cond.selects (cz_on 5) (cz_nm mX5_hasJustVeins) (cz_nm mX5_hasJustVeins) ∈ cz_T := bq1.2.2.2.2.2.2.2.2.2.2.2.2.2.2.2.2.2.2.2.2.2.2.2.2.2.2.2.2.2.1
theorem myX5_missesAny : cz_my mX5_missesAny 5 0 := ⟨rfl, bq23.2.2.2.2.2.2.2.2.2.2.2.2.2.2.2.2.2.2.2.2.2.2.2.1, ini5, nv5, nw5, pd13⟩
theorem inX5_missesAny : Cond.instanceMethod (cz_nm mX5_missesAny) ∈ cz_T := bq23.2.2.2.2.2.2.2.2.2.2.2.2.2.2.2.2.2.2.2.2.2.1
theorem seX5_missesAny : Cond.selects (cz_on 5) (cz_nm mX5_missesAny) (cz_nm mX5_missesAny) ∈ cz_T := bq23.2.2.2.2.2.2.2.2.2.2.2.2.2.2.2.2.2.2.2.2.2.2.1
theorem myX5_price : cz_my mX5_price 5 1 := ⟨rfl, bq19.2.2.2.2.2.2.2.2.2.2.2.2.2.2.2.2.2.2.2.2.2.1, ini5, nv5, nw5, pd1⟩
theorem inX5_price : Cond.instanceMethod (cz_nm mX5_price) ∈ cz_T := bq19.2.2.2.2.2.2.2.2.2.2.2.2.2.2.2.2.2.2.2.1
theorem seX5_price : Cond.selects (cz_on 5) (cz_nm mX5_price) (cz_nm mX5_price) ∈ cz_T := bq19.2.2.2.2.2.2.2.2.2.2.2.2.2.2.2.2.2.2.2.2.1
theorem myX5_sum : cz_my mX5_sum 5 0 := ⟨rfl, bq19.2.2.2.2.2.2.2.2.2.2.2.2.2.1, ini5, nv5, nw5, pd14⟩
theorem inX5_sum : Cond.instanceMethod (cz_nm mX5_sum) ∈ cz_T := bq19.2.2.2.2.2.2.2.2.2.2.2.1
theorem seX5_sum : Cond.selects (cz_on 5) (cz_nm mX5_sum) (cz_nm mX5_sum) ∈ cz_T := bq19.2.2.2.2.2.2.2.2.2.2.2.2.1
theorem myX6_init : cz_my mX6_init 6 0 := ⟨rfl, bq8.2.2.2.2.2.2.2.2.2.2.1, ini6, nv6, nw6, pd0⟩
theorem inX6_init : Cond.instanceMethod (cz_nm mX6_init) ∈ cz_T := bq8.2.2.2.2.2.2.2.2.2.1
theorem myX6_clear : cz_my mX6_clear 6 0 := ⟨rfl, bq14.2.2.2.2.2.2.2.2.2.1, ini6, nv6, nw6, pd0⟩
theorem inX6_clear : Cond.instanceMethod (cz_nm mX6_clear) ∈ cz_T := bq14.2.2.2.2.2.2.2.1
theorem seX6_clear : Cond.selects (cz_on 6) (cz_nm mX6_clear) (cz_nm mX6_clear) ∈ cz_T := bq14.2.2.2.2.2.2.2.2.1
theorem myX6_keepAct : cz_my mX6_keepAct 6 1 := ⟨rfl, bq25.2.2.2.2.2.2.2.2.2.2.2.2.2.2.2.2.2.2.2.1, ini6, nv6, nw6, pd2⟩
theorem inX6_keepAct : Cond.instanceMethod (cz_nm mX6_keepAct) ∈ cz_T := bq25.2.2.2.2.2.2.2.2.2.2.2.2.2.2.2.2.2.1
theorem seX6_keepAct : Cond.selects (cz_on 6) (cz_nm mX6_keepAct) (cz_nm mX6_keepAct) ∈ cz_T := bq25.2.2.2.2.2.2.2.2.2.2.2.2.2.2.2.2.2.2.1
theorem myX6_dropOldestAct : cz_my mX6_dropOldestAct 6 0 := ⟨rfl, bq25.2.2.2.2.2.2.2.2.2.2.2.2.2.2.2.2.2.2.2.2.2.2.1, ini6, nv6, nw6, pd0⟩
theorem inX6_dropOldestAct : Cond.instanceMethod (cz_nm mX6_dropOldestAct) ∈ cz_T := bq25.2.2.2.2.2.2.2.2.2.2.2.2.2.2.2.2.2.2.2.2.2.1
theorem seX6_dropOldestAct : Cond.selects (cz_on 6) (cz_nm mX6_dropOldestAct) (cz_nm mX6_dropOldestAct) ∈ cz_T := bq2.2.2.1
theorem myX6_takeBack : cz_my mX6_takeBack 6 1 := ⟨rfl, bq26.2.2.2.2.2.2.2.2.2.2.2.2.2.2.2.2.2.2.2.2.2.2.2.2.2.2.2.2.1, ini6, nv6, nw6, pd15⟩
theorem inX6_takeBack : Cond.instanceMethod (cz_nm mX6_takeBack) ∈ cz_T := bq26.2.2.2.2.2.2.2.2.2.2.2.2.2.2.2.2.2.2.2.2.2.2.2.2.2.2.1
theorem seX6_takeBack : Cond.selects (cz_on 6) (cz_nm mX6_takeBack) (cz_nm mX6_takeBack) ∈ cz_T := bq26.2.2.2.2.2.2.2.2.2.2.2.2.2.2.2.2.2.2.2.2.2.2.2.2.2.2.2.1
theorem myX6_keepMark : cz_my mX6_keepMark 6 1 := ⟨rfl, bq27.2.2.2.2.2.2.1, ini6, nv6, nw6, pd16⟩
theorem inX6_keepMark : Cond.instanceMethod (cz_nm mX6_keepMark) ∈ cz_T := bq27.2.2.2.2.1
theorem seX6_keepMark : Cond.selects (cz_on 6) (cz_nm mX6_keepMark) (cz_nm mX6_keepMark) ∈ cz_T := bq27.2.2.2.2.2.1
theorem myX6_goBack : cz_my mX6_goBack 6 2 := ⟨rfl, bq27.2.2.2.2.2.2.2.2.2.2.2.2.2.2.1, ini6, nv6, nw6, pd17⟩
theorem inX6_goBack : Cond.instanceMethod (cz_nm mX6_goBack) ∈ cz_T := bq27.2.2.2.2.2.2.2.2.2.2.2.2.1
theorem seX6_goBack : Cond.selects (cz_on 6) (cz_nm mX6_goBack) (cz_nm mX6_goBack) ∈ cz_T := bq27.2.2.2.2.2.2.2.2.2.2.2.2.2.1
theorem myX7_init : cz_my mX7_init 7 2 := ⟨rfl, bq7.1, ini7, nv7, nw7, pd18⟩
theorem inX7_init : Cond.instanceMethod (cz_nm mX7_init) ∈ cz_T := bq6.2.2.2.2.2.2.2.2.2.2.2.2.2.2.2.2.2.2.2.2.2.2.2.2.2.2.2.2.2.1
theorem myX7_readAll : cz_my mX7_readAll 7 2 := ⟨rfl, bq9.2.2.2.2.2.2.2.2.2.2.2.2.2.2.2.2.2.1, ini7, nv7, nw7, pd19⟩
theorem inX7_readAll : Cond.instanceMethod (cz_nm mX7_readAll) ∈ cz_T := bq9.2.2.2.2.2.2.2.2.2.2.2.2.2.2.2.1
theorem seX7_readAll : Cond.selects (cz_on 7) (cz_nm mX7_readAll) (cz_nm mX7_readAll) ∈ cz_T := bq9.2.2.2.2.2.2.2.2.2.2.2.2.2.2.2.2.1
theorem myX7_fail : cz_my mX7_fail 7 1 := ⟨rfl, bq11.2.2.2.2.2.2.2.2.2.2.2.2.1, ini7, nv7, nw7, pd4⟩
theorem inX7_fail : Cond.instanceMethod (cz_nm mX7_fail) ∈ cz_T := bq11.2.2.2.2.2.2.2.2.2.2.2.1
theorem seX7_fail : Cond.selects (cz_on 7) (cz_nm mX7_fail) (cz_nm mX7_fail) ∈ cz_T := bq0.2.2.2.2.2.2.2.1
theorem myX7_step : cz_my mX7_step 7 0 := ⟨rfl, bq9.2.2.2.2.2.2.2.2.2.2.2.2.2.2.2.2.2.2.2.2.2.2.2.2.1, ini7, nv7, nw7, pd0⟩
theorem inX7_step : Cond.instanceMethod (cz_nm mX7_step) ∈ cz_T := bq9.2.2.2.2.2.2.2.2.2.2.2.2.2.2.2.2.2.2.2.2.2.2.2.1
theorem seX7_step : Cond.selects (cz_on 7) (cz_nm mX7_step) (cz_nm mX7_step) ∈ cz_T := bq0.2.2.1
theorem myX7_stepWord : cz_my mX7_stepWord 7 0 := ⟨rfl, bq9.2.2.2.2.2.2.2.2.2.2.2.2.2.2.2.2.2.2.2.2.2.2.2.2.2.2.2.1, ini7, nv7, nw7, pd14⟩
theorem inX7_stepWord : Cond.instanceMethod (cz_nm mX7_stepWord) ∈ cz_T := bq9.2.2.2.2.2.2.2.2.2.2.2.2.2.2.2.2.2.2.2.2.2.2.2.2.2.2.1
theorem seX7_stepWord : Cond.selects (cz_on 7) (cz_nm mX7_stepWord) (cz_nm mX7_stepWord) ∈ cz_T := bq0.2.2.2.1
theorem myX7_stepWhole : cz_my mX7_stepWhole 7 0 := ⟨rfl, bq10.2.2.1, ini7, nv7, nw7, pd14⟩
theorem inX7_stepWhole : Cond.instanceMethod (cz_nm mX7_stepWhole) ∈ cz_T := bq10.2.1
theorem seX7_stepWhole : Cond.selects (cz_on 7) (cz_nm mX7_stepWhole) (cz_nm mX7_stepWhole) ∈ cz_T := bq0.2.2.2.2.1
theorem myX7_packed : cz_my mX7_packed 7 1 := ⟨rfl, bq10.2.2.2.2.2.2.2.2.2.2.2.2.2.2.1, ini7, nv7, nw7, pd20⟩
theorem inX7_packed : Cond.static (cz_nm mX7_packed) ∈ cz_T := bq10.2.2.2.2.2.2.2.2.2.2.2.2.2.1
theorem myX7_seesWord : cz_my mX7_seesWord 7 1 := ⟨rfl, bq11.2.2.2.2.2.2.2.2.2.2.2.2.2.2.2.2.2.2.2.2.2.2.2.2.2.2.2.1, ini7, nv7, nw7, pd21⟩
theorem inX7_seesWord : Cond.instanceMethod (cz_nm mX7_seesWord) ∈ cz_T := bq11.2.2.2.2.2.2.2.2.2.2.2.2.2.2.2.2.2.2.2.2.2.2.2.2.2.2.1
theorem seX7_seesWord : Cond.selects (cz_on 7) (cz_nm mX7_seesWord) (cz_nm mX7_seesWord) ∈ cz_T := bq0.2.2.2.2.2.2.2.2.2.2.2.2.1
theorem myX7_takeWord : cz_my mX7_takeWord 7 1 := ⟨rfl, bq11.2.2.2.2.2.2.2.2.2.2.2.2.2.2.2.2.2.2.2.2.2.2.2.2.1, ini7, nv7, nw7, pd21⟩
theorem inX7_takeWord : Cond.instanceMethod (cz_nm mX7_takeWord) ∈ cz_T := bq11.2.2.2.2.2.2.2.2.2.2.2.2.2.2.2.2.2.2.2.2.2.2.2.1
theorem seX7_takeWord : Cond.selects (cz_on 7) (cz_nm mX7_takeWord) (cz_nm mX7_takeWord) ∈ cz_T := bq0.2.2.2.2.2.2.2.2.2.2.2.1
theorem myX7_seesWhole : cz_my mX7_seesWhole 7 2 := ⟨rfl, bq12.2.2.2.1, ini7, nv7, nw7, pd10⟩
theorem inX7_seesWhole : Cond.instanceMethod (cz_nm mX7_seesWhole) ∈ cz_T := bq12.2.2.1
theorem seX7_seesWhole : Cond.selects (cz_on 7) (cz_nm mX7_seesWhole) (cz_nm mX7_seesWhole) ∈ cz_T := bq0.2.2.2.2.2.2.2.2.2.2.2.2.2.2.1
theorem myX7_takeWhole : cz_my mX7_takeWhole 7 2 := ⟨rfl, bq12.1, ini7, nv7, nw7, pd10⟩
theorem inX7_takeWhole : Cond.instanceMethod (cz_nm mX7_takeWhole) ∈ cz_T := bq11.2.2.2.2.2.2.2.2.2.2.2.2.2.2.2.2.2.2.2.2.2.2.2.2.2.2.2.2.2.1
theorem seX7_takeWhole : Cond.selects (cz_on 7) (cz_nm mX7_takeWhole) (cz_nm mX7_takeWhole) ∈ cz_T := bq0.2.2.2.2.2.2.2.2.2.2.2.2.2.1
theorem myX7_takeComma : cz_my mX7_takeComma 7 0 := ⟨rfl, bq12.2.2.2.2.2.2.1, ini7, nv7, nw7, pd13⟩
theorem inX7_takeComma : Cond.instanceMethod (cz_nm mX7_takeComma) ∈ cz_T := bq12.2.2.2.2.2.1
theorem seX7_takeComma : Cond.selects (cz_on 7) (cz_nm mX7_takeComma) (cz_nm mX7_takeComma) ∈ cz_T := bq0.2.2.2.2.2.2.2.2.2.2.2.2.2.2.2.1
theorem myX7_takeHut : cz_my mX7_takeHut 7 0 := ⟨rfl, bq12.2.2.2.2.2.2.2.2.2.2.2.2.2.2.2.2.2.2.2.2.2.2.2.2.1, ini7, nv7, nw7, pd13⟩
theorem inX7_takeHut : Cond.instanceMethod (cz_nm mX7_takeHut) ∈ cz_T := bq12.2.2.2.2.2.2.2.2.2.2.2.2.2.2.2.2.2.2.2.2.2.2.2.1
theorem seX7_takeHut : Cond.selects (cz_on 7) (cz_nm mX7_takeHut) (cz_nm mX7_takeHut) ∈ cz_T := bq0.2.2.2.2.2.2.2.2.2.2.2.2.2.2.2.2.2.2.2.2.2.1
theorem myX7_takeSpan : cz_my mX7_takeSpan 7 0 := ⟨rfl, bq13.2.2.2.2.2.2.1, ini7, nv7, nw7, pd13⟩
theorem inX7_takeSpan : Cond.instanceMethod (cz_nm mX7_takeSpan) ∈ cz_T := bq13.2.2.2.2.2.1
theorem seX7_takeSpan : Cond.selects (cz_on 7) (cz_nm mX7_takeSpan) (cz_nm mX7_takeSpan) ∈ cz_T := bq0.2.2.2.2.2.2.2.2.2.2.2.2.2.2.2.2.2.2.2.2.2.2.2.2.2.1
theorem myX7_lineWord : cz_my mX7_lineWord 7 1 := ⟨rfl, bq10.2.2.2.2.2.2.2.2.2.2.2.1, ini7, nv7, nw7, pd22⟩
theorem inX7_lineWord : Cond.static (cz_nm mX7_lineWord) ∈ cz_T := bq10.2.2.2.2.2.2.2.2.2.2.1
theorem myX7_sortOfWord : cz_my mX7_sortOfWord 7 0 := ⟨rfl, bq10.2.2.2.2.2.2.2.2.1, ini7, nv7, nw7, pd14⟩
theorem inX7_sortOfWord : Cond.instanceMethod (cz_nm mX7_sortOfWord) ∈ cz_T := bq10.2.2.2.2.2.2.2.1
theorem seX7_sortOfWord : Cond.selects (cz_on 7) (cz_nm mX7_sortOfWord) (cz_nm mX7_sortOfWord) ∈ cz_T := bq0.2.2.2.2.2.2.1
theorem myX7_isToldAgain : cz_my mX7_isToldAgain 7 1 := ⟨rfl, bq11.2.2.2.2.2.2.2.2.2.2.2.2.2.2.2.1, ini7, nv7, nw7, pd4⟩
theorem inX7_isToldAgain : Cond.instanceMethod (cz_nm mX7_isToldAgain) ∈ cz_T := bq11.2.2.2.2.2.2.2.2.2.2.2.2.2.2.1
theorem seX7_isToldAgain : Cond.selects (cz_on 7) (cz_nm mX7_isToldAgain) (cz_nm mX7_isToldAgain) ∈ cz_T := bq0.2.2.2.2.2.2.2.2.1
theorem myX7_isFull : cz_my mX7_isFull 7 1 := ⟨rfl, bq11.2.2.2.2.2.2.2.2.2.2.2.2.2.2.2.2.2.2.1, ini7, nv7, nw7, pd4⟩
theorem inX7_isFull : Cond.instanceMethod (cz_nm mX7_isFull) ∈ cz_T := bq11.2.2.2.2.2.2.2.2.2.2.2.2.2.2.2.2.2.1
theorem seX7_isFull : Cond.selects (cz_on 7) (cz_nm mX7_isFull) (cz_nm mX7_isFull) ∈ cz_T := bq0.2.2.2.2.2.2.2.2.2.1
theorem myX7_readLine : cz_my mX7_readLine 7 0 := ⟨rfl, bq10.2.2.2.2.2.1, ini7, nv7, nw7, pd13⟩
theorem inX7_readLine : Cond.instanceMethod (cz_nm mX7_readLine) ∈ cz_T := bq10.2.2.2.2.1
theorem seX7_readLine : Cond.selects (cz_on 7) (cz_nm mX7_readLine) (cz_nm mX7_readLine) ∈ cz_T := bq0.2.2.2.2.2.1
theorem myX7_readAlp : cz_my mX7_readAlp 7 0 := ⟨rfl, bq11.2.2.2.2.2.2.2.2.2.2.2.2.2.2.2.2.2.2.2.2.2.1, ini7, nv7, nw7, pd13⟩
theorem inX7_readAlp : Cond.instanceMethod (cz_nm mX7_readAlp) ∈ cz_T := bq11.2.2.2.2.2.2.2.2.2.2.2.2.2.2.2.2.2.2.2.2.1
theorem seX7_readAlp : Cond.selects (cz_on 7) (cz_nm mX7_readAlp) (cz_nm mX7_readAlp) ∈ cz_T := bq0.2.2.2.2.2.2.2.2.2.2.1
theorem myX7_readEvent : cz_my mX7_readEvent 7 1 := ⟨rfl, bq14.2.1, ini7, nv7, nw7, pd4⟩
theorem inX7_readEvent : Cond.instanceMethod (cz_nm mX7_readEvent) ∈ cz_T := bq14.1
theorem seX7_readEvent : Cond.selects (cz_on 7) (cz_nm mX7_readEvent) (cz_nm mX7_readEvent) ∈ cz_T := bq0.2.2.2.2.2.2.2.2.2.2.2.2.2.2.2.2.2.2.2.2.2.2.2.2.2.2.2.2.1
theorem myX7_readCheese : cz_my mX7_readCheese 7 0 := ⟨rfl, bq12.2.2.2.2.2.2.2.2.2.1, ini7, nv7, nw7, pd13⟩
theorem inX7_readCheese : Cond.instanceMethod (cz_nm mX7_readCheese) ∈ cz_T := bq12.2.2.2.2.2.2.2.2.1
theorem seX7_readCheese : Cond.selects (cz_on 7) (cz_nm mX7_readCheese) (cz_nm mX7_readCheese) ∈ cz_T := bq0.2.2.2.2.2.2.2.2.2.2.2.2.2.2.2.2.1
theorem myX7_readTurner : cz_my mX7_readTurner 7 0 := ⟨rfl, bq13.1, ini7, nv7, nw7, pd13⟩
theorem inX7_readTurner : Cond.instanceMethod (cz_nm mX7_readTurner) ∈ cz_T := bq12.2.2.2.2.2.2.2.2.2.2.2.2.2.2.2.2.2.2.2.2.2.2.2.2.2.2.2.2.2.1
theorem seX7_readTurner : Cond.selects (cz_on 7) (cz_nm mX7_readTurner) (cz_nm mX7_readTurner) ∈ cz_T := bq0.2.2.2.2.2.2.2.2.2.2.2.2.2.2.2.2.2.2.2.2.2.2.2.1
theorem myX7_turnerKind : cz_my mX7_turnerKind 7 0 := ⟨rfl, bq13.2.2.2.1, ini7, nv7, nw7, pd14⟩
theorem inX7_turnerKind : Cond.instanceMethod (cz_nm mX7_turnerKind) ∈ cz_T := bq13.2.2.1
theorem seX7_turnerKind : Cond.selects (cz_on 7) (cz_nm mX7_turnerKind) (cz_nm mX7_turnerKind) ∈ cz_T := bq0.2.2.2.2.2.2.2.2.2.2.2.2.2.2.2.2.2.2.2.2.2.2.2.2.1
theorem myX7_readHuts : cz_my mX7_readHuts 7 1 := ⟨rfl, bq13.2.2.2.2.2.2.2.2.2.1, ini7, nv7, nw7, pd23⟩
theorem inX7_readHuts : Cond.instanceMethod (cz_nm mX7_readHuts) ∈ cz_T := bq13.2.2.2.2.2.2.2.2.1
theorem seX7_readHuts : Cond.selects (cz_on 7) (cz_nm mX7_readHuts) (cz_nm mX7_readHuts) ∈ cz_T := bq0.2.2.2.2.2.2.2.2.2.2.2.2.2.2.2.2.2.2.2.2.2.2.2.2.2.2.1
theorem myX7_readCall : cz_my mX7_readCall 7 0 := ⟨rfl, bq13.2.2.2.2.2.2.2.2.2.2.2.2.2.2.1, ini7, nv7, nw7, pd13⟩
theorem inX7_readCall : Cond.instanceMethod (cz_nm mX7_readCall) ∈ cz_T := bq13.2.2.2.2.2.2.2.2.2.2.2.2.2.1
theorem seX7_readCall : Cond.selects (cz_on 7) (cz_nm mX7_readCall) (cz_nm mX7_readCall) ∈ cz_T := bq0.2.2.2.2.2.2.2.2.2.2.2.2.2.2.2.2.2.2.2.2.2.2.2.2.2.2.2.1
theorem myX7_readMinutes : cz_my mX7_readMinutes 7 1 := ⟨rfl, bq12.2.2.2.2.2.2.2.2.2.2.2.2.2.2.2.2.2.2.2.2.2.2.2.2.2.2.2.1, ini7, nv7, nw7, pd24⟩
theorem inX7_readMinutes : Cond.instanceMethod (cz_nm mX7_readMinutes) ∈ cz_T := bq12.2.2.2.2.2.2.2.2.2.2.2.2.2.2.2.2.2.2.2.2.2.2.2.2.2.2.1
theorem seX7_readMinutes : Cond.selects (cz_on 7) (cz_nm mX7_readMinutes) (cz_nm mX7_readMinutes) ∈ cz_T := bq0.2.2.2.2.2.2.2.2.2.2.2.2.2.2.2.2.2.2.2.2.2.2.1
theorem myX7_seesName : cz_my mX7_seesName 7 0 := ⟨rfl, bq12.2.2.2.2.2.2.2.2.2.2.2.2.2.2.2.1, ini7, nv7, nw7, pd13⟩
theorem inX7_seesName : Cond.instanceMethod (cz_nm mX7_seesName) ∈ cz_T := bq12.2.2.2.2.2.2.2.2.2.2.2.2.2.2.1
theorem seX7_seesName : Cond.selects (cz_on 7) (cz_nm mX7_seesName) (cz_nm mX7_seesName) ∈ cz_T := bq0.2.2.2.2.2.2.2.2.2.2.2.2.2.2.2.2.2.2.1
theorem myX7_seesNewName : cz_my mX7_seesNewName 7 0 := ⟨rfl, bq12.2.2.2.2.2.2.2.2.2.2.2.2.1, ini7, nv7, nw7, pd13⟩
theorem inX7_seesNewName : Cond.instanceMethod (cz_nm mX7_seesNewName) ∈ cz_T := bq12.2.2.2.2.2.2.2.2.2.2.2.1
theorem seX7_seesNewName : Cond.selects (cz_on 7) (cz_nm mX7_seesNewName) (cz_nm mX7_seesNewName) ∈ cz_T := bq0.2.2.2.2.2.2.2.2.2.2.2.2.2.2.2.2.2.1
theorem myX7_isToldCheese : cz_my mX7_isToldCheese 7 0 := ⟨rfl, bq12.2.2.2.2.2.2.2.2.2.2.2.2.2.2.2.2.2.2.1, ini7, nv7, nw7, pd13⟩
theorem inX7_isToldCheese : Cond.instanceMethod (cz_nm mX7_isToldCheese) ∈ cz_T := bq12.2.2.2.2.2.2.2.2.2.2.2.2.2.2.2.2.2.1
theorem seX7_isToldCheese : Cond.selects (cz_on 7) (cz_nm mX7_isToldCheese) (cz_nm mX7_isToldCheese) ∈ cz_T := bq0.2.2.2.2.2.2.2.2.2.2.2.2.2.2.2.2.2.2.2.1
theorem myX7_namedTurner : cz_my mX7_namedTurner 7 0 := ⟨rfl, bq12.2.2.2.2.2.2.2.2.2.2.2.2.2.2.2.2.2.2.2.2.2.1, ini7, nv7, nw7, pd14⟩
theorem inX7_namedTurner : Cond.instanceMethod (cz_nm mX7_namedTurner) ∈ cz_T := bq12.2.2.2.2.2.2.2.2.2.2.2.2.2.2.2.2.2.2.2.2.1
theorem seX7_namedTurner : Cond.selects (cz_on 7) (cz_nm mX7_namedTurner) (cz_nm mX7_namedTurner) ∈ cz_T := bq0.2.2.2.2.2.2.2.2.2.2.2.2.2.2.2.2.2.2.2.2.1
theorem myX8_init : cz_my mX8_init 8 0 := ⟨rfl, bq8.2.2.2.2.2.2.2.2.2.2.2.2.2.2.2.2.1, ini8, nv8, nw8, pd0⟩
theorem inX8_init : Cond.instanceMethod (cz_nm mX8_init) ∈ cz_T := bq8.2.2.2.2.2.2.2.2.2.2.2.2.2.2.2.1
theorem myX8_build : cz_my mX8_build 8 3 := ⟨rfl, bq15.2.2.2.2.2.2.2.1, ini8, nv8, nw8, pd25⟩
theorem inX8_build : Cond.instanceMethod (cz_nm mX8_build) ∈ cz_T := bq15.2.2.2.2.2.1
theorem seX8_build : Cond.selects (cz_on 8) (cz_nm mX8_build) (cz_nm mX8_build) ∈ cz_T := bq15.2.2.2.2.2.2.1
theorem myX8_wipe : cz_my mX8_wipe 8 0 := ⟨rfl, bq15.2.2.2.2.2.2.2.2.2.2.1, ini8, nv8, nw8, pd0⟩
theorem inX8_wipe : Cond.instanceMethod (cz_nm mX8_wipe) ∈ cz_T := bq15.2.2.2.2.2.2.2.2.2.1
theorem seX8_wipe : Cond.selects (cz_on 8) (cz_nm mX8_wipe) (cz_nm mX8_wipe) ∈ cz_T := bq1.2.2.2.1
theorem myX8_layCloud : cz_my mX8_layCloud 8 2 := ⟨rfl, bq15.2.2.2.2.2.2.2.2.2.2.2.2.2.2.2.2.1, ini8, nv8, nw8, pd3⟩
theorem inX8_layCloud : Cond.instanceMethod (cz_nm mX8_layCloud) ∈ cz_T := bq15.2.2.2.2.2.2.2.2.2.2.2.2.2.2.2.1
theorem seX8_layCloud : Cond.selects (cz_on 8) (cz_nm mX8_layCloud) (cz_nm mX8_layCloud) ∈ cz_T := bq1.2.2.2.2.2.1
theorem myX8_layEvent : cz_my mX8_layEvent 8 1 := ⟨rfl, bq15.2.2.2.2.2.2.2.2.2.2.2.2.2.1, ini8, nv8, nw8, pd26⟩
theorem inX8_layEvent : Cond.instanceMethod (cz_nm mX8_layEvent) ∈ cz_T := bq15.2.2.2.2.2.2.2.2.2.2.2.2.1
theorem seX8_layEvent : Cond.selects (cz_on 8) (cz_nm mX8_layEvent) (cz_nm mX8_layEvent) ∈ cz_T := bq1.2.2.2.2.1
theorem myX8_findLight : cz_my mX8_findLight 8 0 := ⟨rfl, bq15.2.2.2.2.2.2.2.2.2.2.2.2.2.2.2.2.2.2.2.1, ini8, nv8, nw8, pd0⟩
theorem inX8_findLight : Cond.instanceMethod (cz_nm mX8_findLight) ∈ cz_T := bq15.2.2.2.2.2.2.2.2.2.2.2.2.2.2.2.2.2.2.1
theorem seX8_findLight : Cond.selects (cz_on 8) (cz_nm mX8_findLight) (cz_nm mX8_findLight) ∈ cz_T := bq1.2.2.2.2.2.2.1
theorem myX8_findStirs : cz_my mX8_findStirs 8 1 := ⟨rfl, bq15.2.2.2.2.2.2.2.2.2.2.2.2.2.2.2.2.2.2.2.2.2.2.2.2.2.2.1, ini8, nv8, nw8, pd27⟩
theorem inX8_findStirs : Cond.instanceMethod (cz_nm mX8_findStirs) ∈ cz_T := bq15.2.2.2.2.2.2.2.2.2.2.2.2.2.2.2.2.2.2.2.2.2.2.2.2.2.1
theorem seX8_findStirs : Cond.selects (cz_on 8) (cz_nm mX8_findStirs) (cz_nm mX8_findStirs) ∈ cz_T := bq1.2.2.2.2.2.2.2.1
theorem myX8_isBright : cz_my mX8_isBright 8 1 := ⟨rfl, bq15.2.2.2.2.2.2.2.2.2.2.2.2.2.2.2.2.2.2.2.2.2.2.2.1, ini8, nv8, nw8, pd4⟩
theorem inX8_isBright : Cond.instanceMethod (cz_nm mX8_isBright) ∈ cz_T := bq15.2.2.2.2.2.2.2.2.2.2.2.2.2.2.2.2.2.2.2.2.2.1
theorem seX8_isBright : Cond.selects (cz_on 8) (cz_nm mX8_isBright) (cz_nm mX8_isBright) ∈ cz_T := bq15.2.2.2.2.2.2.2.2.2.2.2.2.2.2.2.2.2.2.2.2.2.2.1
theorem myX8_crackingHuts : cz_my mX8_crackingHuts 8 1 := ⟨rfl, bq18.2.2.2.2.2.2.2.2.2.2.2.2.2.2.2.2.2.1, ini8, nv8, nw8, pd1⟩
theorem inX8_crackingHuts : Cond.instanceMethod (cz_nm mX8_crackingHuts) ∈ cz_T := bq18.2.2.2.2.2.2.2.2.2.2.2.2.2.2.2.1
theorem seX8_crackingHuts : Cond.selects (cz_on 8) (cz_nm mX8_crackingHuts) (cz_nm mX8_crackingHuts) ∈ cz_T := bq18.2.2.2.2.2.2.2.2.2.2.2.2.2.2.2.2.1
theorem myX9_init : cz_my mX9_init 9 0 := ⟨rfl, bq6.2.2.2.2.2.2.2.2.2.2.2.2.2.2.2.2.2.2.2.2.1, ini9, nv9, nw9, pd0⟩
theorem inX9_init : Cond.instanceMethod (cz_nm mX9_init) ∈ cz_T := bq6.2.2.2.2.2.2.2.2.2.2.2.2.2.2.2.2.2.2.2.1
theorem myX10_init : cz_my mX10_init 10 0 := ⟨rfl, bq5.2.2.2.2.2.2.2.2.2.2.2.2.2.2.2.2.2.2.2.2.2.2.2.2.1, ini10, nv10, nw10, pd0⟩
theorem inX10_init : Cond.instanceMethod (cz_nm mX10_init) ∈ cz_T := bq5.2.2.2.2.2.2.2.2.2.2.2.2.2.2.2.2.2.2.2.2.2.2.2.1
theorem myX10_feed : cz_my mX10_feed 10 5 := ⟨rfl, bq9.2.2.2.1, ini10, nv10, nw10, pd28⟩
theorem inX10_feed : Cond.instanceMethod (cz_nm mX10_feed) ∈ cz_T := bq9.2.1
theorem seX10_feed : Cond.selects (cz_on 10) (cz_nm mX10_feed) (cz_nm mX10_feed) ∈ cz_T := bq9.2.2.1
theorem myX10_alp : cz_my mX10_alp 10 1 := ⟨rfl, bq9.2.2.2.2.2.2.2.2.2.2.1, ini10, nv10, nw10, pd1⟩
theorem inX10_alp : Cond.instanceMethod (cz_nm mX10_alp) ∈ cz_T := bq9.2.2.2.2.2.2.2.2.1
theorem seX10_alp : Cond.selects (cz_on 10) (cz_nm mX10_alp) (cz_nm mX10_alp) ∈ cz_T := bq9.2.2.2.2.2.2.2.2.2.1
theorem myX10_fault : cz_my mX10_fault 10 0 := ⟨rfl, bq14.2.2.2.2.2.2.2.2.2.2.2.2.2.2.2.2.2.2.2.1, ini10, nv10, nw10, pd14⟩
theorem inX10_fault : Cond.instanceMethod (cz_nm mX10_fault) ∈ cz_T := bq14.2.2.2.2.2.2.2.2.2.2.2.2.2.2.2.2.2.1
theorem seX10_fault : Cond.selects (cz_on 10) (cz_nm mX10_fault) (cz_nm mX10_fault) ∈ cz_T := bq14.2.2.2.2.2.2.2.2.2.2.2.2.2.2.2.2.2.2.1
theorem myX10_where : cz_my mX10_where 10 0 := ⟨rfl, bq14.2.2.2.2.2.2.2.2.2.2.2.2.2.2.2.2.2.2.2.2.2.2.2.1, ini10, nv10, nw10, pd14⟩
theorem inX10_where : Cond.instanceMethod (cz_nm mX10_where) ∈ cz_T := bq14.2.2.2.2.2.2.2.2.2.2.2.2.2.2.2.2.2.2.2.2.2.1
theorem seX10_where : Cond.selects (cz_on 10) (cz_nm mX10_where) (cz_nm mX10_where) ∈ cz_T := bq14.2.2.2.2.2.2.2.2.2.2.2.2.2.2.2.2.2.2.2.2.2.2.1
theorem myX10_sky : cz_my mX10_sky 10 1 := ⟨rfl, bq14.2.2.2.2.2.2.2.2.2.2.2.2.2.2.2.2.2.2.2.2.2.2.2.2.2.2.2.1, ini10, nv10, nw10, pd1⟩
theorem inX10_sky : Cond.instanceMethod (cz_nm mX10_sky) ∈ cz_T := bq14.2.2.2.2.2.2.2.2.2.2.2.2.2.2.2.2.2.2.2.2.2.2.2.2.2.1
theorem seX10_sky : Cond.selects (cz_on 10) (cz_nm mX10_sky) (cz_nm mX10_sky) ∈ cz_T := bq14.2.2.2.2.2.2.2.2.2.2.2.2.2.2.2.2.2.2.2.2.2.2.2.2.2.2.1
theorem myX10_light : cz_my mX10_light 10 3 := ⟨rfl, bq16.2.2.2.2.2.1, ini10, nv10, nw10, pd29⟩
theorem inX10_light : Cond.instanceMethod (cz_nm mX10_light) ∈ cz_T := bq16.2.2.2.1
theorem seX10_light : Cond.selects (cz_on 10) (cz_nm mX10_light) (cz_nm mX10_light) ∈ cz_T := bq16.2.2.2.2.1
theorem myX10_changes : cz_my mX10_changes 10 2 := ⟨rfl, bq16.2.2.2.2.2.2.2.2.2.2.2.2.2.1, ini10, nv10, nw10, pd30⟩
theorem inX10_changes : Cond.instanceMethod (cz_nm mX10_changes) ∈ cz_T := bq16.2.2.2.2.2.2.2.2.2.2.2.1
theorem seX10_changes : Cond.selects (cz_on 10) (cz_nm mX10_changes) (cz_nm mX10_changes) ∈ cz_T := bq16.2.2.2.2.2.2.2.2.2.2.2.2.1
theorem myX10_change : cz_my mX10_change 10 2 := ⟨rfl, bq16.2.2.2.2.2.2.2.2.2.2.2.2.2.2.2.2.2.1, ini10, nv10, nw10, pd7⟩
theorem inX10_change : Cond.instanceMethod (cz_nm mX10_change) ∈ cz_T := bq16.2.2.2.2.2.2.2.2.2.2.2.2.2.2.2.1
theorem seX10_change : Cond.selects (cz_on 10) (cz_nm mX10_change) (cz_nm mX10_change) ∈ cz_T := bq16.2.2.2.2.2.2.2.2.2.2.2.2.2.2.2.2.1
theorem myX10_peak : cz_my mX10_peak 10 0 := ⟨rfl, bq16.2.2.2.2.2.2.2.2.2.2.2.2.2.2.2.2.2.2.2.2.2.1, ini10, nv10, nw10, pd14⟩
theorem inX10_peak : Cond.instanceMethod (cz_nm mX10_peak) ∈ cz_T := bq16.2.2.2.2.2.2.2.2.2.2.2.2.2.2.2.2.2.2.2.1
theorem seX10_peak : Cond.selects (cz_on 10) (cz_nm mX10_peak) (cz_nm mX10_peak) ∈ cz_T := bq16.2.2.2.2.2.2.2.2.2.2.2.2.2.2.2.2.2.2.2.2.1
theorem myX10_due : cz_my mX10_due 10 1 := ⟨rfl, bq16.2.2.2.2.2.2.2.2.2.2.2.2.2.2.2.2.2.2.2.2.2.2.2.2.2.2.2.2.2.1, ini10, nv10, nw10, pd1⟩
theorem inX10_due : Cond.instanceMethod (cz_nm mX10_due) ∈ cz_T := bq16.2.2.2.2.2.2.2.2.2.2.2.2.2.2.2.2.2.2.2.2.2.2.2.2.2.2.2.1
theorem seX10_due : Cond.selects (cz_on 10) (cz_nm mX10_due) (cz_nm mX10_due) ∈ cz_T := bq16.2.2.2.2.2.2.2.2.2.2.2.2.2.2.2.2.2.2.2.2.2.2.2.2.2.2.2.2.1
theorem myX10_awake : cz_my mX10_awake 10 2 := ⟨rfl, bq17.2.2.2.1, ini10, nv10, nw10, pd7⟩
theorem inX10_awake : Cond.instanceMethod (cz_nm mX10_awake) ∈ cz_T := bq17.2.1
theorem seX10_awake : Cond.selects (cz_on 10) (cz_nm mX10_awake) (cz_nm mX10_awake) ∈ cz_T := bq17.2.2.1
theorem myX10_notices : cz_my mX10_notices 10 3 := ⟨rfl, bq18.2.2.2.2.2.2.2.2.2.2.2.2.2.2.2.2.2.2.2.2.2.2.1, ini10, nv10, nw10, pd31⟩
theorem inX10_notices : Cond.instanceMethod (cz_nm mX10_notices) ∈ cz_T := bq18.2.2.2.2.2.2.2.2.2.2.2.2.2.2.2.2.2.2.2.2.1
theorem seX10_notices : Cond.selects (cz_on 10) (cz_nm mX10_notices) (cz_nm mX10_notices) ∈ cz_T := bq18.2.2.2.2.2.2.2.2.2.2.2.2.2.2.2.2.2.2.2.2.2.1
theorem myX10_work : cz_my mX10_work 10 2 := ⟨rfl, bq18.2.2.2.2.2.2.2.2.2.2.2.2.2.2.2.2.2.2.2.2.2.2.2.2.2.2.2.1, ini10, nv10, nw10, pd7⟩
theorem inX10_work : Cond.instanceMethod (cz_nm mX10_work) ∈ cz_T := bq18.2.2.2.2.2.2.2.2.2.2.2.2.2.2.2.2.2.2.2.2.2.2.2.2.2.1
theorem seX10_work : Cond.selects (cz_on 10) (cz_nm mX10_work) (cz_nm mX10_work) ∈ cz_T := bq18.2.2.2.2.2.2.2.2.2.2.2.2.2.2.2.2.2.2.2.2.2.2.2.2.2.2.1
theorem myX10_worth : cz_my mX10_worth 10 1 := ⟨rfl, bq19.2.2.2.2.2.1, ini10, nv10, nw10, pd1⟩
theorem inX10_worth : Cond.instanceMethod (cz_nm mX10_worth) ∈ cz_T := bq19.2.2.2.1
theorem seX10_worth : Cond.selects (cz_on 10) (cz_nm mX10_worth) (cz_nm mX10_worth) ∈ cz_T := bq19.2.2.2.2.1
theorem myX10_turned : cz_my mX10_turned 10 2 := ⟨rfl, bq19.2.2.2.2.2.2.2.2.2.2.2.2.2.2.2.2.2.2.2.2.2.2.2.2.2.2.2.2.1, ini10, nv10, nw10, pd7⟩
theorem inX10_turned : Cond.instanceMethod (cz_nm mX10_turned) ∈ cz_T := bq19.2.2.2.2.2.2.2.2.2.2.2.2.2.2.2.2.2.2.2.2.2.2.2.2.2.2.1
theorem seX10_turned : Cond.selects (cz_on 10) (cz_nm mX10_turned) (cz_nm mX10_turned) ∈ cz_T := bq19.2.2.2.2.2.2.2.2.2.2.2.2.2.2.2.2.2.2.2.2.2.2.2.2.2.2.2.1
theorem myX10_up : cz_my mX10_up 10 2 := ⟨rfl, bq20.2.2.2.2.2.2.2.2.2.1, ini10, nv10, nw10, pd7⟩
theorem inX10_up : Cond.instanceMethod (cz_nm mX10_up) ∈ cz_T := bq20.2.2.2.2.2.2.2.1
theorem seX10_up : Cond.selects (cz_on 10) (cz_nm mX10_up) (cz_nm mX10_up) ∈ cz_T := bq20.2.2.2.2.2.2.2.2.1
theorem myX10_cheese : cz_my mX10_cheese 10 2 := ⟨rfl, bq20.2.2.2.2.2.2.2.2.2.2.2.2.2.2.2.2.2.2.2.2.2.1, ini10, nv10, nw10, pd7⟩
theorem inX10_cheese : Cond.instanceMethod (cz_nm mX10_cheese) ∈ cz_T := bq20.2.2.2.2.2.2.2.2.2.2.2.2.2.2.2.2.2.2.2.1
theorem seX10_cheese : Cond.selects (cz_on 10) (cz_nm mX10_cheese) (cz_nm mX10_cheese) ∈ cz_T := bq20.2.2.2.2.2.2.2.2.2.2.2.2.2.2.2.2.2.2.2.2.1
theorem myX10_vein : cz_my mX10_vein 10 2 := ⟨rfl, bq20.2.2.2.2.2.2.2.2.2.2.2.2.2.2.2.2.2.2.2.2.2.2.2.2.2.2.1, ini10, nv10, nw10, pd7⟩
theorem inX10_vein : Cond.instanceMethod (cz_nm mX10_vein) ∈ cz_T := bq20.2.2.2.2.2.2.2.2.2.2.2.2.2.2.2.2.2.2.2.2.2.2.2.2.1
theorem seX10_vein : Cond.selects (cz_on 10) (cz_nm mX10_vein) (cz_nm mX10_vein) ∈ cz_T := bq20.2.2.2.2.2.2.2.2.2.2.2.2.2.2.2.2.2.2.2.2.2.2.2.2.2.1
theorem myX10_cause : cz_my mX10_cause 10 2 := ⟨rfl, bq22.2.2.1, ini10, nv10, nw10, pd7⟩
theorem inX10_cause : Cond.instanceMethod (cz_nm mX10_cause) ∈ cz_T := bq22.1
theorem seX10_cause : Cond.selects (cz_on 10) (cz_nm mX10_cause) (cz_nm mX10_cause) ∈ cz_T := bq22.2.1
theorem myX10_total : cz_my mX10_total 10 0 := ⟨rfl, bq22.2.2.2.2.2.2.2.2.2.2.2.2.2.2.2.1, ini10, nv10, nw10, pd14⟩
theorem inX10_total : Cond.instanceMethod (cz_nm mX10_total) ∈ cz_T := bq22.2.2.2.2.2.2.2.2.2.2.2.2.2.1
theorem seX10_total : Cond.selects (cz_on 10) (cz_nm mX10_total) (cz_nm mX10_total) ∈ cz_T := bq22.2.2.2.2.2.2.2.2.2.2.2.2.2.2.1
theorem myX10_without : cz_my mX10_without 10 1 := ⟨rfl, bq22.2.2.2.2.2.2.2.2.2.2.2.2.2.2.2.2.2.2.2.1, ini10, nv10, nw10, pd1⟩
theorem inX10_without : Cond.instanceMethod (cz_nm mX10_without) ∈ cz_T := bq22.2.2.2.2.2.2.2.2.2.2.2.2.2.2.2.2.2.1
theorem seX10_without : Cond.selects (cz_on 10) (cz_nm mX10_without) (cz_nm mX10_without) ∈ cz_T := bq22.2.2.2.2.2.2.2.2.2.2.2.2.2.2.2.2.2.2.1
theorem myX10_wake : cz_my mX10_wake 10 0 := ⟨rfl, bq22.2.2.2.2.2.2.2.2.2.2.2.2.2.2.2.2.2.2.2.2.2.2.2.2.2.2.1, ini10, nv10, nw10, pd14⟩
theorem inX10_wake : Cond.instanceMethod (cz_nm mX10_wake) ∈ cz_T := bq22.2.2.2.2.2.2.2.2.2.2.2.2.2.2.2.2.2.2.2.2.2.2.2.2.1
theorem seX10_wake : Cond.selects (cz_on 10) (cz_nm mX10_wake) (cz_nm mX10_wake) ∈ cz_T := bq22.2.2.2.2.2.2.2.2.2.2.2.2.2.2.2.2.2.2.2.2.2.2.2.2.2.1
theorem myX10_wakeTotal : cz_my mX10_wakeTotal 10 0 := ⟨rfl, bq23.2.2.2.2.2.2.2.2.2.2.2.2.1, ini10, nv10, nw10, pd14⟩
theorem inX10_wakeTotal : Cond.instanceMethod (cz_nm mX10_wakeTotal) ∈ cz_T := bq23.2.2.2.2.2.2.2.2.2.2.1
theorem seX10_wakeTotal : Cond.selects (cz_on 10) (cz_nm mX10_wakeTotal) (cz_nm mX10_wakeTotal) ∈ cz_T := bq23.2.2.2.2.2.2.2.2.2.2.2.1
theorem myX10_fewest : cz_my mX10_fewest 10 0 := ⟨rfl, bq23.2.2.2.2.2.2.2.2.2.2.2.2.2.2.2.2.1, ini10, nv10, nw10, pd14⟩
theorem inX10_fewest : Cond.instanceMethod (cz_nm mX10_fewest) ∈ cz_T := bq23.2.2.2.2.2.2.2.2.2.2.2.2.2.2.1
theorem seX10_fewest : Cond.selects (cz_on 10) (cz_nm mX10_fewest) (cz_nm mX10_fewest) ∈ cz_T := bq23.2.2.2.2.2.2.2.2.2.2.2.2.2.2.2.1
theorem myX10_fewestBy : cz_my mX10_fewestBy 10 0 := ⟨rfl, bq23.2.2.2.2.2.2.2.2.2.2.2.2.2.2.2.2.2.2.2.2.2.2.2.2.2.2.2.1, ini10, nv10, nw10, pd14⟩
theorem inX10_fewestBy : Cond.instanceMethod (cz_nm mX10_fewestBy) ∈ cz_T := bq23.2.2.2.2.2.2.2.2.2.2.2.2.2.2.2.2.2.2.2.2.2.2.2.2.2.1
theorem seX10_fewestBy : Cond.selects (cz_on 10) (cz_nm mX10_fewestBy) (cz_nm mX10_fewestBy) ∈ cz_T := bq23.2.2.2.2.2.2.2.2.2.2.2.2.2.2.2.2.2.2.2.2.2.2.2.2.2.2.1
theorem myX10_fits : cz_my mX10_fits 10 1 := ⟨rfl, bq24.2.1, ini10, nv10, nw10, pd1⟩
theorem inX10_fits : Cond.instanceMethod (cz_nm mX10_fits) ∈ cz_T := bq23.2.2.2.2.2.2.2.2.2.2.2.2.2.2.2.2.2.2.2.2.2.2.2.2.2.2.2.2.2.1
theorem seX10_fits : Cond.selects (cz_on 10) (cz_nm mX10_fits) (cz_nm mX10_fits) ∈ cz_T := bq24.1
theorem myX10_by : cz_my mX10_by 10 1 := ⟨rfl, bq24.2.2.2.2.2.2.2.2.2.2.2.2.2.2.2.1, ini10, nv10, nw10, pd1⟩
theorem inX10_by : Cond.instanceMethod (cz_nm mX10_by) ∈ cz_T := bq24.2.2.2.2.2.2.2.2.2.2.2.2.2.1
theorem seX10_by : Cond.selects (cz_on 10) (cz_nm mX10_by) (cz_nm mX10_by) ∈ cz_T := bq24.2.2.2.2.2.2.2.2.2.2.2.2.2.2.1
theorem myX10_nights : cz_my mX10_nights 10 3 := ⟨rfl, bq24.2.2.2.2.2.2.2.2.2.2.2.2.2.2.2.2.2.2.2.1, ini10, nv10, nw10, pd31⟩
theorem inX10_nights : Cond.instanceMethod (cz_nm mX10_nights) ∈ cz_T := bq24.2.2.2.2.2.2.2.2.2.2.2.2.2.2.2.2.2.1
theorem seX10_nights : Cond.selects (cz_on 10) (cz_nm mX10_nights) (cz_nm mX10_nights) ∈ cz_T := bq24.2.2.2.2.2.2.2.2.2.2.2.2.2.2.2.2.2.2.1
theorem myX10_call : cz_my mX10_call 10 2 := ⟨rfl, bq25.2.2.2.2.2.2.2.2.2.2.2.2.1, ini10, nv10, nw10, pd32⟩
theorem inX10_call : Cond.instanceMethod (cz_nm mX10_call) ∈ cz_T := bq25.2.2.2.2.2.2.2.2.2.2.1
theorem seX10_call : Cond.selects (cz_on 10) (cz_nm mX10_call) (cz_nm mX10_call) ∈ cz_T := bq25.2.2.2.2.2.2.2.2.2.2.2.1
theorem myX10_calls : cz_my mX10_calls 10 0 := ⟨rfl, bq26.2.2.2.1, ini10, nv10, nw10, pd14⟩
theorem inX10_calls : Cond.instanceMethod (cz_nm mX10_calls) ∈ cz_T := bq26.2.1
theorem seX10_calls : Cond.selects (cz_on 10) (cz_nm mX10_calls) (cz_nm mX10_calls) ∈ cz_T := bq26.2.2.1
theorem myX10_cloud : cz_my mX10_cloud 10 2 := ⟨rfl, bq26.2.2.2.2.2.2.2.1, ini10, nv10, nw10, pd10⟩
theorem inX10_cloud : Cond.instanceMethod (cz_nm mX10_cloud) ∈ cz_T := bq26.2.2.2.2.2.1
theorem seX10_cloud : Cond.selects (cz_on 10) (cz_nm mX10_cloud) (cz_nm mX10_cloud) ∈ cz_T := bq26.2.2.2.2.2.2.1
theorem myX10_draw : cz_my mX10_draw 10 0 := ⟨rfl, bq26.2.2.2.2.2.2.2.2.2.2.2.2.1, ini10, nv10, nw10, pd14⟩
theorem inX10_draw : Cond.instanceMethod (cz_nm mX10_draw) ∈ cz_T := bq26.2.2.2.2.2.2.2.2.2.2.1
theorem seX10_draw : Cond.selects (cz_on 10) (cz_nm mX10_draw) (cz_nm mX10_draw) ∈ cz_T := bq26.2.2.2.2.2.2.2.2.2.2.2.1
theorem myX10_lift : cz_my mX10_lift 10 0 := ⟨rfl, bq26.2.2.2.2.2.2.2.2.2.2.2.2.2.2.2.2.1, ini10, nv10, nw10, pd13⟩
theorem inX10_lift : Cond.instanceMethod (cz_nm mX10_lift) ∈ cz_T := bq26.2.2.2.2.2.2.2.2.2.2.2.2.2.2.1
theorem seX10_lift : Cond.selects (cz_on 10) (cz_nm mX10_lift) (cz_nm mX10_lift) ∈ cz_T := bq26.2.2.2.2.2.2.2.2.2.2.2.2.2.2.2.1
theorem myX10_seed : cz_my mX10_seed 10 1 := ⟨rfl, bq26.2.2.2.2.2.2.2.2.2.2.2.2.2.2.2.2.2.2.2.2.1, ini10, nv10, nw10, pd4⟩
theorem inX10_seed : Cond.instanceMethod (cz_nm mX10_seed) ∈ cz_T := bq26.2.2.2.2.2.2.2.2.2.2.2.2.2.2.2.2.2.2.1
theorem seX10_seed : Cond.selects (cz_on 10) (cz_nm mX10_seed) (cz_nm mX10_seed) ∈ cz_T := bq26.2.2.2.2.2.2.2.2.2.2.2.2.2.2.2.2.2.2.2.1
theorem myX10_undo : cz_my mX10_undo 10 0 := ⟨rfl, bq26.2.2.2.2.2.2.2.2.2.2.2.2.2.2.2.2.2.2.2.2.2.2.2.2.1, ini10, nv10, nw10, pd13⟩
theorem inX10_undo : Cond.instanceMethod (cz_nm mX10_undo) ∈ cz_T := bq26.2.2.2.2.2.2.2.2.2.2.2.2.2.2.2.2.2.2.2.2.2.2.1
theorem seX10_undo : Cond.selects (cz_on 10) (cz_nm mX10_undo) (cz_nm mX10_undo) ∈ cz_T := bq26.2.2.2.2.2.2.2.2.2.2.2.2.2.2.2.2.2.2.2.2.2.2.2.1
theorem myX10_mark : cz_my mX10_mark 10 0 := ⟨rfl, bq27.2.2.1, ini10, nv10, nw10, pd14⟩
theorem inX10_mark : Cond.instanceMethod (cz_nm mX10_mark) ∈ cz_T := bq27.1
theorem seX10_mark : Cond.selects (cz_on 10) (cz_nm mX10_mark) (cz_nm mX10_mark) ∈ cz_T := bq27.2.1
theorem myX10_back : cz_my mX10_back 10 1 := ⟨rfl, bq27.2.2.2.2.2.2.2.2.2.2.1, ini10, nv10, nw10, pd4⟩
theorem inX10_back : Cond.instanceMethod (cz_nm mX10_back) ∈ cz_T := bq27.2.2.2.2.2.2.2.2.1
theorem seX10_back : Cond.selects (cz_on 10) (cz_nm mX10_back) (cz_nm mX10_back) ∈ cz_T := bq27.2.2.2.2.2.2.2.2.2.1
theorem myX10_event : cz_my mX10_event 10 2 := ⟨rfl, bq27.2.2.2.2.2.2.2.2.2.2.2.2.2.2.2.2.2.2.1, ini10, nv10, nw10, pd7⟩
theorem inX10_event : Cond.instanceMethod (cz_nm mX10_event) ∈ cz_T := bq27.2.2.2.2.2.2.2.2.2.2.2.2.2.2.2.2.1
theorem seX10_event : Cond.selects (cz_on 10) (cz_nm mX10_event) (cz_nm mX10_event) ∈ cz_T := bq27.2.2.2.2.2.2.2.2.2.2.2.2.2.2.2.2.2.1
theorem myX10_led : cz_my mX10_led 10 1 := ⟨rfl, bq28.1, ini10, nv10, nw10, pd1⟩
theorem inX10_led : Cond.instanceMethod (cz_nm mX10_led) ∈ cz_T := bq27.2.2.2.2.2.2.2.2.2.2.2.2.2.2.2.2.2.2.2.2.2.2.2.2.2.2.2.2.1
theorem seX10_led : Cond.selects (cz_on 10) (cz_nm mX10_led) (cz_nm mX10_led) ∈ cz_T := bq27.2.2.2.2.2.2.2.2.2.2.2.2.2.2.2.2.2.2.2.2.2.2.2.2.2.2.2.2.2.1
theorem myX10_size : cz_my mX10_size 10 1 := ⟨rfl, bq27.2.2.2.2.2.2.2.2.2.2.2.2.2.2.2.2.2.2.2.2.2.2.1, ini10, nv10, nw10, pd1⟩
theorem inX10_size : Cond.instanceMethod (cz_nm mX10_size) ∈ cz_T := bq27.2.2.2.2.2.2.2.2.2.2.2.2.2.2.2.2.2.2.2.2.1
theorem seX10_size : Cond.selects (cz_on 10) (cz_nm mX10_size) (cz_nm mX10_size) ∈ cz_T := bq27.2.2.2.2.2.2.2.2.2.2.2.2.2.2.2.2.2.2.2.2.2.1
theorem myX10_trouble : cz_my mX10_trouble 10 0 := ⟨rfl, bq27.2.2.2.2.2.2.2.2.2.2.2.2.2.2.2.2.2.2.2.2.2.2.2.2.2.2.1, ini10, nv10, nw10, pd14⟩
theorem inX10_trouble : Cond.instanceMethod (cz_nm mX10_trouble) ∈ cz_T := bq27.2.2.2.2.2.2.2.2.2.2.2.2.2.2.2.2.2.2.2.2.2.2.2.2.1
theorem seX10_trouble : Cond.selects (cz_on 10) (cz_nm mX10_trouble) (cz_nm mX10_trouble) ∈ cz_T := bq27.2.2.2.2.2.2.2.2.2.2.2.2.2.2.2.2.2.2.2.2.2.2.2.2.2.1
theorem myX10_answered : cz_my mX10_answered 10 1 := ⟨rfl, bq14.2.2.2.2.2.2.2.2.2.2.2.2.2.2.2.1, ini10, nv10, nw10, pd1⟩
theorem inX10_answered : Cond.instanceMethod (cz_nm mX10_answered) ∈ cz_T := bq14.2.2.2.2.2.2.2.2.2.2.2.2.2.2.1
theorem seX10_answered : Cond.selects (cz_on 10) (cz_nm mX10_answered) (cz_nm mX10_answered) ∈ cz_T := bq1.1
theorem myX10_allowed : cz_my mX10_allowed 10 0 := ⟨rfl, bq25.2.2.2.2.2.2.2.2.2.2.2.2.2.2.2.2.2.2.2.2.2.2.2.2.2.2.2.2.2.1, ini10, nv10, nw10, pd13⟩
theorem inX10_allowed : Cond.instanceMethod (cz_nm mX10_allowed) ∈ cz_T := bq25.2.2.2.2.2.2.2.2.2.2.2.2.2.2.2.2.2.2.2.2.2.2.2.2.2.2.2.2.1
theorem seX10_allowed : Cond.selects (cz_on 10) (cz_nm mX10_allowed) (cz_nm mX10_allowed) ∈ cz_T := bq2.2.2.2.1
theorem myX10_refused : cz_my mX10_refused 10 1 := ⟨rfl, bq9.2.2.2.2.2.2.2.2.2.2.2.2.2.1, ini10, nv10, nw10, pd1⟩
theorem inX10_refused : Cond.instanceMethod (cz_nm mX10_refused) ∈ cz_T := bq9.2.2.2.2.2.2.2.2.2.2.2.2.1
theorem seX10_refused : Cond.selects (cz_on 10) (cz_nm mX10_refused) (cz_nm mX10_refused) ∈ cz_T := bq0.2.1
theorem myX10_refusedTotal : cz_my mX10_refusedTotal 10 1 := ⟨rfl, bq19.2.2.2.2.2.2.2.2.1, ini10, nv10, nw10, pd1⟩
theorem inX10_refusedTotal : Cond.instanceMethod (cz_nm mX10_refusedTotal) ∈ cz_T := bq19.2.2.2.2.2.2.2.1
theorem seX10_refusedTotal : Cond.selects (cz_on 10) (cz_nm mX10_refusedTotal) (cz_nm mX10_refusedTotal) ∈ cz_T := bq1.2.2.2.2.2.2.2.2.2.2.2.2.2.2.2.2.2.1
theorem myX10_refusedAct : cz_my mX10_refusedAct 10 1 := ⟨rfl, bq25.2.2.2.2.2.2.2.2.2.2.2.2.2.2.2.1, ini10, nv10, nw10, pd4⟩
theorem inX10_refusedAct : Cond.instanceMethod (cz_nm mX10_refusedAct) ∈ cz_T := bq25.2.2.2.2.2.2.2.2.2.2.2.2.2.2.1
theorem seX10_refusedAct : Cond.selects (cz_on 10) (cz_nm mX10_refusedAct) (cz_nm mX10_refusedAct) ∈ cz_T := bq2.2.1
theorem myX10_isMinute : cz_my mX10_isMinute 10 1 := ⟨rfl, bq15.1, ini10, nv10, nw10, pd4⟩
theorem inX10_isMinute : Cond.instanceMethod (cz_nm mX10_isMinute) ∈ cz_T := bq14.2.2.2.2.2.2.2.2.2.2.2.2.2.2.2.2.2.2.2.2.2.2.2.2.2.2.2.2.2.1
theorem seX10_isMinute : Cond.selects (cz_on 10) (cz_nm mX10_isMinute) (cz_nm mX10_isMinute) ∈ cz_T := bq1.2.1
theorem myX10_isHut : cz_my mX10_isHut 10 1 := ⟨rfl, bq16.2.2.2.2.2.2.2.2.1, ini10, nv10, nw10, pd4⟩
theorem inX10_isHut : Cond.instanceMethod (cz_nm mX10_isHut) ∈ cz_T := bq16.2.2.2.2.2.2.2.1
theorem seX10_isHut : Cond.selects (cz_on 10) (cz_nm mX10_isHut) (cz_nm mX10_isHut) ∈ cz_T := bq1.2.2.2.2.2.2.2.2.1
theorem myX10_isTurner : cz_my mX10_isTurner 10 1 := ⟨rfl, bq17.2.2.2.2.2.2.1, ini10, nv10, nw10, pd4⟩
theorem inX10_isTurner : Cond.instanceMethod (cz_nm mX10_isTurner) ∈ cz_T := bq17.2.2.2.2.2.1
theorem seX10_isTurner : Cond.selects (cz_on 10) (cz_nm mX10_isTurner) (cz_nm mX10_isTurner) ∈ cz_T := bq1.2.2.2.2.2.2.2.2.2.1
theorem myX10_isCheese : cz_my mX10_isCheese 10 1 := ⟨rfl, bq20.2.1, ini10, nv10, nw10, pd4⟩
theorem inX10_isCheese : Cond.instanceMethod (cz_nm mX10_isCheese) ∈ cz_T := bq20.1
theorem seX10_isCheese : Cond.selects (cz_on 10) (cz_nm mX10_isCheese) (cz_nm mX10_isCheese) ∈ cz_T := bq1.2.2.2.2.2.2.2.2.2.2.2.2.2.2.2.2.2.2.1
theorem myX10_isSlice : cz_my mX10_isSlice 10 1 := ⟨rfl, bq24.2.2.2.2.1, ini10, nv10, nw10, pd4⟩
theorem inX10_isSlice : Cond.instanceMethod (cz_nm mX10_isSlice) ∈ cz_T := bq24.2.2.2.1
theorem seX10_isSlice : Cond.selects (cz_on 10) (cz_nm mX10_isSlice) (cz_nm mX10_isSlice) ∈ cz_T := bq1.2.2.2.2.2.2.2.2.2.2.2.2.2.2.2.2.2.2.2.2.2.2.2.2.2.2.2.2.1
theorem myX10_isEvent : cz_my mX10_isEvent 10 1 := ⟨rfl, bq22.2.2.2.2.2.2.2.2.2.2.2.2.2.2.2.2.2.2.2.2.2.2.1, ini10, nv10, nw10, pd4⟩
theorem inX10_isEvent : Cond.instanceMethod (cz_nm mX10_isEvent) ∈ cz_T := bq22.2.2.2.2.2.2.2.2.2.2.2.2.2.2.2.2.2.2.2.2.2.1
theorem seX10_isEvent : Cond.selects (cz_on 10) (cz_nm mX10_isEvent) (cz_nm mX10_isEvent) ∈ cz_T := bq1.2.2.2.2.2.2.2.2.2.2.2.2.2.2.2.2.2.2.2.2.2.2.2.2.1
theorem myX10_isSeed : cz_my mX10_isSeed 10 1 := ⟨rfl, bq24.2.2.2.2.2.2.2.2.2.2.2.2.2.2.2.2.2.2.2.2.2.2.1, ini10, nv10, nw10, pd4⟩
theorem inX10_isSeed : Cond.static (cz_nm mX10_isSeed) ∈ cz_T := bq24.2.2.2.2.2.2.2.2.2.2.2.2.2.2.2.2.2.2.2.2.2.1
theorem myX10_bit : cz_my mX10_bit 10 2 := ⟨rfl, bq13.2.2.2.2.2.2.2.2.2.2.2.1, ini10, nv10, nw10, pd7⟩
theorem inX10_bit : Cond.static (cz_nm mX10_bit) ∈ cz_T := bq13.2.2.2.2.2.2.2.2.2.2.1
theorem myX10_putBytes : cz_my mX10_putBytes 10 1 := ⟨rfl, bq9.2.2.2.2.2.2.1, ini10, nv10, nw10, pd33⟩
theorem inX10_putBytes : Cond.instanceMethod (cz_nm mX10_putBytes) ∈ cz_T := bq9.2.2.2.2.2.1
theorem seX10_putBytes : Cond.selects (cz_on 10) (cz_nm mX10_putBytes) (cz_nm mX10_putBytes) ∈ cz_T := bq0.1
theorem myX10_cloudsMoved : cz_my mX10_cloudsMoved 10 0 := ⟨rfl, bq14.2.2.2.2.2.2.2.2.2.2.2.2.1, ini10, nv10, nw10, pd0⟩
theorem inX10_cloudsMoved : Cond.instanceMethod (cz_nm mX10_cloudsMoved) ∈ cz_T := bq14.2.2.2.2.2.2.2.2.2.2.2.1
theorem seX10_cloudsMoved : Cond.selects (cz_on 10) (cz_nm mX10_cloudsMoved) (cz_nm mX10_cloudsMoved) ∈ cz_T := bq0.2.2.2.2.2.2.2.2.2.2.2.2.2.2.2.2.2.2.2.2.2.2.2.2.2.2.2.2.2.1
theorem myX10_presentSky : cz_my mX10_presentSky 10 0 := ⟨rfl, bq15.2.2.2.1, ini10, nv10, nw10, pd34⟩
theorem inX10_presentSky : Cond.instanceMethod (cz_nm mX10_presentSky) ∈ cz_T := bq15.2.2.1
theorem seX10_presentSky : Cond.selects (cz_on 10) (cz_nm mX10_presentSky) (cz_nm mX10_presentSky) ∈ cz_T := bq1.2.2.1
theorem myX10_presentNight : cz_my mX10_presentNight 10 0 := ⟨rfl, bq17.2.2.2.2.2.2.2.2.2.1, ini10, nv10, nw10, pd35⟩
theorem inX10_presentNight : Cond.instanceMethod (cz_nm mX10_presentNight) ∈ cz_T := bq17.2.2.2.2.2.2.2.2.1
theorem seX10_presentNight : Cond.selects (cz_on 10) (cz_nm mX10_presentNight) (cz_nm mX10_presentNight) ∈ cz_T := bq1.2.2.2.2.2.2.2.2.2.2.1
theorem myX10_allTurners : cz_my mX10_allTurners 10 0 := ⟨rfl, bq17.2.2.2.2.2.2.2.2.2.2.2.2.1, ini10, nv10, nw10, pd14⟩
theorem inX10_allTurners : Cond.instanceMethod (cz_nm mX10_allTurners) ∈ cz_T := bq17.2.2.2.2.2.2.2.2.2.2.2.1
theorem seX10_allTurners : Cond.selects (cz_on 10) (cz_nm mX10_allTurners) (cz_nm mX10_allTurners) ∈ cz_T := bq1.2.2.2.2.2.2.2.2.2.2.2.1
theorem myX10_allCalls : cz_my mX10_allCalls 10 0 := ⟨rfl, bq23.2.2.1, ini10, nv10, nw10, pd14⟩
theorem inX10_allCalls : Cond.instanceMethod (cz_nm mX10_allCalls) ∈ cz_T := bq23.2.1
theorem seX10_allCalls : Cond.selects (cz_on 10) (cz_nm mX10_allCalls) (cz_nm mX10_allCalls) ∈ cz_T := bq1.2.2.2.2.2.2.2.2.2.2.2.2.2.2.2.2.2.2.2.2.2.2.2.2.2.2.1
theorem myX10_eventCount : cz_my mX10_eventCount 10 0 := ⟨rfl, bq22.2.2.2.2.2.1, ini10, nv10, nw10, pd14⟩
theorem inX10_eventCount : Cond.instanceMethod (cz_nm mX10_eventCount) ∈ cz_T := bq22.2.2.2.2.1
theorem seX10_eventCount : Cond.selects (cz_on 10) (cz_nm mX10_eventCount) (cz_nm mX10_eventCount) ∈ cz_T := bq1.2.2.2.2.2.2.2.2.2.2.2.2.2.2.2.2.2.2.2.2.2.1
theorem myX10_eventFrom : cz_my mX10_eventFrom 10 1 := ⟨rfl, bq22.2.2.2.2.2.2.2.2.1, ini10, nv10, nw10, pd1⟩
theorem inX10_eventFrom : Cond.instanceMethod (cz_nm mX10_eventFrom) ∈ cz_T := bq22.2.2.2.2.2.2.2.1
theorem seX10_eventFrom : Cond.selects (cz_on 10) (cz_nm mX10_eventFrom) (cz_nm mX10_eventFrom) ∈ cz_T := bq1.2.2.2.2.2.2.2.2.2.2.2.2.2.2.2.2.2.2.2.2.2.2.1
theorem myX10_eventTo : cz_my mX10_eventTo 10 1 := ⟨rfl, bq22.2.2.2.2.2.2.2.2.2.2.2.1, ini10, nv10, nw10, pd1⟩
theorem inX10_eventTo : Cond.instanceMethod (cz_nm mX10_eventTo) ∈ cz_T := bq22.2.2.2.2.2.2.2.2.2.2.1
theorem seX10_eventTo : Cond.selects (cz_on 10) (cz_nm mX10_eventTo) (cz_nm mX10_eventTo) ∈ cz_T := bq1.2.2.2.2.2.2.2.2.2.2.2.2.2.2.2.2.2.2.2.2.2.2.2.1
theorem myX10_veinMinute : cz_my mX10_veinMinute 10 2 := ⟨rfl, bq20.2.2.2.2.2.2.2.2.2.2.2.2.2.2.2.2.2.2.2.2.2.2.2.2.2.2.2.2.2.1, ini10, nv10, nw10, pd7⟩
theorem inX10_veinMinute : Cond.instanceMethod (cz_nm mX10_veinMinute) ∈ cz_T := bq20.2.2.2.2.2.2.2.2.2.2.2.2.2.2.2.2.2.2.2.2.2.2.2.2.2.2.2.2.1
theorem seX10_veinMinute : Cond.selects (cz_on 10) (cz_nm mX10_veinMinute) (cz_nm mX10_veinMinute) ∈ cz_T := bq1.2.2.2.2.2.2.2.2.2.2.2.2.2.2.2.2.2.2.2.2.1
theorem myX10_bestCalls : cz_my mX10_bestCalls 10 0 := ⟨rfl, bq22.2.2.2.2.2.2.2.2.2.2.2.2.2.2.2.2.2.2.2.2.2.2.2.2.2.2.2.2.2.1, ini10, nv10, nw10, pd14⟩
theorem inX10_bestCalls : Cond.instanceMethod (cz_nm mX10_bestCalls) ∈ cz_T := bq22.2.2.2.2.2.2.2.2.2.2.2.2.2.2.2.2.2.2.2.2.2.2.2.2.2.2.2.2.1
theorem seX10_bestCalls : Cond.selects (cz_on 10) (cz_nm mX10_bestCalls) (cz_nm mX10_bestCalls) ∈ cz_T := bq1.2.2.2.2.2.2.2.2.2.2.2.2.2.2.2.2.2.2.2.2.2.2.2.2.2.1
theorem myX10_fewestTurners : cz_my mX10_fewestTurners 10 0 := ⟨rfl, bq23.2.2.2.2.2.2.2.2.2.2.2.2.2.2.2.2.2.2.2.1, ini10, nv10, nw10, pd14⟩
theorem inX10_fewestTurners : Cond.instanceMethod (cz_nm mX10_fewestTurners) ∈ cz_T := bq23.2.2.2.2.2.2.2.2.2.2.2.2.2.2.2.2.2.2.1
theorem seX10_fewestTurners : Cond.selects (cz_on 10) (cz_nm mX10_fewestTurners) (cz_nm mX10_fewestTurners) ∈ cz_T := bq1.2.2.2.2.2.2.2.2.2.2.2.2.2.2.2.2.2.2.2.2.2.2.2.2.2.2.2.1
theorem myX11_init : cz_my mX11_init 11 0 := ⟨rfl, bq29.2.2.2.2.2.2.2.2.2.2.2.2.2.2.2.2.2.2.2.2.1, ini11, nv11, nw11, pd0⟩
theorem inX11_init : Cond.instanceMethod (cz_nm mX11_init) ∈ cz_T := bq29.2.2.2.2.2.2.2.2.2.2.2.2.2.2.2.2.2.2.2.1
theorem myX11_find : cz_my mX11_find 11 1 := ⟨rfl, bq32.2.2.2.2.2.2.2.2.2.1, ini11, nv11, nw11, pd36⟩
theorem inX11_find : Cond.instanceMethod (cz_nm mX11_find) ∈ cz_T := bq32.2.2.2.2.2.2.2.1
theorem seX11_find : Cond.selects (cz_on 11) (cz_nm mX11_find) (cz_nm mX11_find) ∈ cz_T := bq32.2.2.2.2.2.2.2.2.1
theorem myX12_init : cz_my mX12_init 12 0 := ⟨rfl, bq29.2.2.2.2.1, ini12, nv12, nw12, pd0⟩
theorem inX12_init : Cond.instanceMethod (cz_nm mX12_init) ∈ cz_T := bq29.2.2.2.1
theorem myX12_refused : cz_my mX12_refused 12 1 := ⟨rfl, bq29.2.2.2.2.2.2.2.2.2.2.2.2.2.2.2.2.1, ini12, nv12, nw12, pd1⟩
theorem inX12_refused : Cond.instanceMethod (cz_nm mX12_refused) ∈ cz_T := bq29.2.2.2.2.2.2.2.2.2.2.2.2.2.2.2.1
theorem seX12_refused : Cond.selects (cz_on 12) (cz_nm mX12_refused) (cz_nm mX12_refused) ∈ cz_T := bq2.2.2.2.2.1
theorem myX12_lost : cz_my mX12_lost 12 1 := ⟨rfl, bq37.2.2.2.2.2.2.2.2.2.2.2.2.2.2.2.2.1, ini12, nv12, nw12, pd1⟩
theorem inX12_lost : Cond.instanceMethod (cz_nm mX12_lost) ∈ cz_T := bq37.2.2.2.2.2.2.2.2.2.2.2.2.2.2.2.1
theorem seX12_lost : Cond.selects (cz_on 12) (cz_nm mX12_lost) (cz_nm mX12_lost) ∈ cz_T := bq3.2.2.2.2.2.2.2.2.2.2.2.2.2.2.2.2.2.2.2.2.2.2.2.1
theorem myX12_denied : cz_my mX12_denied 12 1 := ⟨rfl, bq41.1, ini12, nv12, nw12, pd4⟩
theorem inX12_denied : Cond.instanceMethod (cz_nm mX12_denied) ∈ cz_T := bq40.2.2.2.2.2.2.2.2.2.2.2.2.2.2.2.2.2.2.2.2.2.2.2.2.2.2.2.2.2.1
theorem seX12_denied : Cond.selects (cz_on 12) (cz_nm mX12_denied) (cz_nm mX12_denied) ∈ cz_T := bq4.2.2.2.2.2.1
theorem myX12_good : cz_my mX12_good 12 1 := ⟨rfl, bq33.2.2.2.2.2.2.2.2.2.1, ini12, nv12, nw12, pd1⟩
theorem inX12_good : Cond.instanceMethod (cz_nm mX12_good) ∈ cz_T := bq33.2.2.2.2.2.2.2.2.1
theorem seX12_good : Cond.selects (cz_on 12) (cz_nm mX12_good) (cz_nm mX12_good) ∈ cz_T := bq3.1
theorem myX12_granted : cz_my mX12_granted 12 0 := ⟨rfl, bq41.2.2.2.2.2.2.1, ini12, nv12, nw12, pd13⟩
theorem inX12_granted : Cond.instanceMethod (cz_nm mX12_granted) ∈ cz_T := bq41.2.2.2.2.2.1
theorem seX12_granted : Cond.selects (cz_on 12) (cz_nm mX12_granted) (cz_nm mX12_granted) ∈ cz_T := bq4.2.2.2.2.2.2.2.1
theorem myX12_in : cz_my mX12_in 12 3 := ⟨rfl, bq31.2.2.2.2.2.2.2.2.2.2.2.2.2.2.2.2.2.1, ini12, nv12, nw12, pd37⟩
theorem inX12_in : Cond.static (cz_nm mX12_in) ∈ cz_T := bq31.2.2.2.2.2.2.2.2.2.2.2.2.2.2.2.2.1
theorem myX12_has : cz_my mX12_has 12 2 := ⟨rfl, bq33.1, ini12, nv12, nw12, pd10⟩
theorem inX12_has : Cond.static (cz_nm mX12_has) ∈ cz_T := bq32.2.2.2.2.2.2.2.2.2.2.2.2.2.2.2.2.2.2.2.2.2.2.2.2.2.2.2.2.2.1
theorem myX12_bits : cz_my mX12_bits 12 1 := ⟨rfl, bq39.2.2.2.2.1, ini12, nv12, nw12, pd1⟩
theorem inX12_bits : Cond.static (cz_nm mX12_bits) ∈ cz_T := bq39.2.2.2.1
theorem myX12_byteAt : cz_my mX12_byteAt 12 1 := ⟨rfl, bq30.2.2.2.2.2.1, ini12, nv12, nw12, pd1⟩
theorem inX12_byteAt : Cond.instanceMethod (cz_nm mX12_byteAt) ∈ cz_T := bq30.2.2.2.2.1
theorem seX12_byteAt : Cond.selects (cz_on 12) (cz_nm mX12_byteAt) (cz_nm mX12_byteAt) ∈ cz_T := bq2.2.2.2.2.2.2.1
theorem myX12_isLetter : cz_my mX12_isLetter 12 1 := ⟨rfl, bq30.2.2.2.2.2.2.2.2.1, ini12, nv12, nw12, pd4⟩
theorem inX12_isLetter : Cond.static (cz_nm mX12_isLetter) ∈ cz_T := bq30.2.2.2.2.2.2.2.1
theorem myX12_isDigit : cz_my mX12_isDigit 12 1 := ⟨rfl, bq30.2.2.2.2.2.2.2.2.2.2.2.2.1, ini12, nv12, nw12, pd4⟩
theorem inX12_isDigit : Cond.static (cz_nm mX12_isDigit) ∈ cz_T := bq30.2.2.2.2.2.2.2.2.2.2.2.1
theorem myX12_wordOf : cz_my mX12_wordOf 12 1 := ⟨rfl, bq30.2.2.2.2.2.2.2.2.2.2.2.2.2.2.2.2.2.2.2.2.2.2.2.2.1, ini12, nv12, nw12, pd20⟩
theorem inX12_wordOf : Cond.static (cz_nm mX12_wordOf) ∈ cz_T := bq30.2.2.2.2.2.2.2.2.2.2.2.2.2.2.2.2.2.2.2.2.2.2.2.1
theorem myX12_goesOn : cz_my mX12_goesOn 12 0 := ⟨rfl, bq30.2.2.1, ini12, nv12, nw12, pd0⟩
theorem inX12_goesOn : Cond.instanceMethod (cz_nm mX12_goesOn) ∈ cz_T := bq30.2.1
theorem seX12_goesOn : Cond.selects (cz_on 12) (cz_nm mX12_goesOn) (cz_nm mX12_goesOn) ∈ cz_T := bq2.2.2.2.2.2.1
theorem myX12_flaw : cz_my mX12_flaw 12 1 := ⟨rfl, bq31.2.2.1, ini12, nv12, nw12, pd33⟩
theorem inX12_flaw : Cond.instanceMethod (cz_nm mX12_flaw) ∈ cz_T := bq31.2.1
theorem seX12_flaw : Cond.selects (cz_on 12) (cz_nm mX12_flaw) (cz_nm mX12_flaw) ∈ cz_T := bq2.2.2.2.2.2.2.2.2.2.2.2.1
theorem myX12_isWord : cz_my mX12_isWord 12 1 := ⟨rfl, bq30.2.2.2.2.2.2.2.2.2.2.2.2.2.2.2.2.2.2.2.2.2.1, ini12, nv12, nw12, pd21⟩
theorem inX12_isWord : Cond.instanceMethod (cz_nm mX12_isWord) ∈ cz_T := bq30.2.2.2.2.2.2.2.2.2.2.2.2.2.2.2.2.2.2.2.2.1
theorem seX12_isWord : Cond.selects (cz_on 12) (cz_nm mX12_isWord) (cz_nm mX12_isWord) ∈ cz_T := bq2.2.2.2.2.2.2.2.2.2.1
theorem myX12_eatsWord : cz_my mX12_eatsWord 12 1 := ⟨rfl, bq32.2.2.2.2.2.2.2.2.2.2.2.2.1, ini12, nv12, nw12, pd21⟩
theorem inX12_eatsWord : Cond.instanceMethod (cz_nm mX12_eatsWord) ∈ cz_T := bq32.2.2.2.2.2.2.2.2.2.2.2.1
theorem seX12_eatsWord : Cond.selects (cz_on 12) (cz_nm mX12_eatsWord) (cz_nm mX12_eatsWord) ∈ cz_T := bq2.2.2.2.2.2.2.2.2.2.2.2.2.2.2.2.2.2.2.2.2.2.2.1
theorem myX12_eatsSign : cz_my mX12_eatsSign 12 1 := ⟨rfl, bq32.2.2.2.2.2.2.2.2.2.2.2.2.2.2.2.2.2.2.2.2.2.2.2.2.1, ini12, nv12, nw12, pd4⟩
theorem inX12_eatsSign : Cond.instanceMethod (cz_nm mX12_eatsSign) ∈ cz_T := bq32.2.2.2.2.2.2.2.2.2.2.2.2.2.2.2.2.2.2.2.2.2.2.2.1
theorem seX12_eatsSign : Cond.selects (cz_on 12) (cz_nm mX12_eatsSign) (cz_nm mX12_eatsSign) ∈ cz_T := bq2.2.2.2.2.2.2.2.2.2.2.2.2.2.2.2.2.2.2.2.2.2.2.2.2.2.2.1
theorem myX12_needs : cz_my mX12_needs 12 1 := ⟨rfl, bq31.2.2.2.2.2.2.2.2.1, ini12, nv12, nw12, pd38⟩
theorem inX12_needs : Cond.instanceMethod (cz_nm mX12_needs) ∈ cz_T := bq31.2.2.2.2.2.2.2.1
theorem seX12_needs : Cond.selects (cz_on 12) (cz_nm mX12_needs) (cz_nm mX12_needs) ∈ cz_T := bq2.2.2.2.2.2.2.2.2.2.2.2.2.2.1
theorem myX12_needsSign : cz_my mX12_needsSign 12 1 := ⟨rfl, bq31.2.2.2.2.2.2.2.2.2.2.2.2.2.2.2.2.2.2.2.2.1, ini12, nv12, nw12, pd33⟩
theorem inX12_needsSign : Cond.instanceMethod (cz_nm mX12_needsSign) ∈ cz_T := bq31.2.2.2.2.2.2.2.2.2.2.2.2.2.2.2.2.2.2.2.1
theorem seX12_needsSign : Cond.selects (cz_on 12) (cz_nm mX12_needsSign) (cz_nm mX12_needsSign) ∈ cz_T := bq2.2.2.2.2.2.2.2.2.2.2.2.2.2.2.2.2.1
theorem myX12_bounded : cz_my mX12_bounded 12 2 := ⟨rfl, bq31.2.2.2.2.2.2.2.2.2.2.2.2.2.2.1, ini12, nv12, nw12, pd7⟩
theorem inX12_bounded : Cond.instanceMethod (cz_nm mX12_bounded) ∈ cz_T := bq31.2.2.2.2.2.2.2.2.2.2.2.2.2.1
theorem seX12_bounded : Cond.selects (cz_on 12) (cz_nm mX12_bounded) (cz_nm mX12_bounded) ∈ cz_T := bq2.2.2.2.2.2.2.2.2.2.2.2.2.2.2.2.1
theorem myX12_readWhole : cz_my mX12_readWhole 12 2 := ⟨rfl, bq31.2.2.2.2.2.2.2.2.2.2.2.1, ini12, nv12, nw12, pd7⟩
theorem inX12_readWhole : Cond.instanceMethod (cz_nm mX12_readWhole) ∈ cz_T := bq31.2.2.2.2.2.2.2.2.2.2.1
theorem seX12_readWhole : Cond.selects (cz_on 12) (cz_nm mX12_readWhole) (cz_nm mX12_readWhole) ∈ cz_T := bq2.2.2.2.2.2.2.2.2.2.2.2.2.2.2.1
theorem myX12_readPart : cz_my mX12_readPart 12 3 := ⟨rfl, bq31.2.2.2.2.2.1, ini12, nv12, nw12, pd39⟩
theorem inX12_readPart : Cond.instanceMethod (cz_nm mX12_readPart) ∈ cz_T := bq31.2.2.2.2.1
theorem seX12_readPart : Cond.selects (cz_on 12) (cz_nm mX12_readPart) (cz_nm mX12_readPart) ∈ cz_T := bq2.2.2.2.2.2.2.2.2.2.2.2.2.1
theorem myX12_isName : cz_my mX12_isName 12 0 := ⟨rfl, bq32.2.2.2.2.2.1, ini12, nv12, nw12, pd13⟩
theorem inX12_isName : Cond.instanceMethod (cz_nm mX12_isName) ∈ cz_T := bq32.2.2.2.2.1
theorem seX12_isName : Cond.selects (cz_on 12) (cz_nm mX12_isName) (cz_nm mX12_isName) ∈ cz_T := bq2.2.2.2.2.2.2.2.2.2.2.2.2.2.2.2.2.2.2.2.2.2.1
theorem myX12_begins : cz_my mX12_begins 12 2 := ⟨rfl, bq31.2.2.2.2.2.2.2.2.2.2.2.2.2.2.2.2.2.2.2.2.2.2.2.2.2.2.1, ini12, nv12, nw12, pd3⟩
theorem inX12_begins : Cond.instanceMethod (cz_nm mX12_begins) ∈ cz_T := bq31.2.2.2.2.2.2.2.2.2.2.2.2.2.2.2.2.2.2.2.2.2.2.2.2.2.1
theorem seX12_begins : Cond.selects (cz_on 12) (cz_nm mX12_begins) (cz_nm mX12_begins) ∈ cz_T := bq2.2.2.2.2.2.2.2.2.2.2.2.2.2.2.2.2.2.2.1
theorem myX12_readFresh : cz_my mX12_readFresh 12 0 := ⟨rfl, bq32.2.2.1, ini12, nv12, nw12, pd40⟩
theorem inX12_readFresh : Cond.instanceMethod (cz_nm mX12_readFresh) ∈ cz_T := bq32.2.1
theorem seX12_readFresh : Cond.selects (cz_on 12) (cz_nm mX12_readFresh) (cz_nm mX12_readFresh) ∈ cz_T := bq2.2.2.2.2.2.2.2.2.2.2.2.2.2.2.2.2.2.2.2.2.1
theorem myX12_names : cz_my mX12_names 12 3 := ⟨rfl, bq32.2.2.2.2.2.2.2.2.2.2.2.2.2.2.2.1, ini12, nv12, nw12, pd41⟩
theorem inX12_names : Cond.instanceMethod (cz_nm mX12_names) ∈ cz_T := bq32.2.2.2.2.2.2.2.2.2.2.2.2.2.2.1
theorem seX12_names : Cond.selects (cz_on 12) (cz_nm mX12_names) (cz_nm mX12_names) ∈ cz_T := bq2.2.2.2.2.2.2.2.2.2.2.2.2.2.2.2.2.2.2.2.2.2.2.2.1
theorem myX12_readAll : cz_my mX12_readAll 12 0 := ⟨rfl, bq30.2.2.2.2.2.2.2.2.2.2.2.2.2.2.2.1, ini12, nv12, nw12, pd0⟩
theorem inX12_readAll : Cond.instanceMethod (cz_nm mX12_readAll) ∈ cz_T := bq30.2.2.2.2.2.2.2.2.2.2.2.2.2.2.1
theorem seX12_readAll : Cond.selects (cz_on 12) (cz_nm mX12_readAll) (cz_nm mX12_readAll) ∈ cz_T := bq2.2.2.2.2.2.2.2.1
theorem myX12_readLine : cz_my mX12_readLine 12 0 := ⟨rfl, bq30.2.2.2.2.2.2.2.2.2.2.2.2.2.2.2.2.2.2.1, ini12, nv12, nw12, pd0⟩
theorem inX12_readLine : Cond.instanceMethod (cz_nm mX12_readLine) ∈ cz_T := bq30.2.2.2.2.2.2.2.2.2.2.2.2.2.2.2.2.2.1
theorem seX12_readLine : Cond.selects (cz_on 12) (cz_nm mX12_readLine) (cz_nm mX12_readLine) ∈ cz_T := bq2.2.2.2.2.2.2.2.2.1
theorem myX12_readAlp : cz_my mX12_readAlp 12 0 := ⟨rfl, bq30.2.2.2.2.2.2.2.2.2.2.2.2.2.2.2.2.2.2.2.2.2.2.2.2.2.2.2.2.2.1, ini12, nv12, nw12, pd0⟩
theorem inX12_readAlp : Cond.instanceMethod (cz_nm mX12_readAlp) ∈ cz_T := bq30.2.2.2.2.2.2.2.2.2.2.2.2.2.2.2.2.2.2.2.2.2.2.2.2.2.2.2.2.1
theorem seX12_readAlp : Cond.selects (cz_on 12) (cz_nm mX12_readAlp) (cz_nm mX12_readAlp) ∈ cz_T := bq2.2.2.2.2.2.2.2.2.2.2.1
theorem myX12_readEvent : cz_my mX12_readEvent 12 1 := ⟨rfl, bq31.2.2.2.2.2.2.2.2.2.2.2.2.2.2.2.2.2.2.2.2.2.2.2.1, ini12, nv12, nw12, pd33⟩
theorem inX12_readEvent : Cond.instanceMethod (cz_nm mX12_readEvent) ∈ cz_T := bq31.2.2.2.2.2.2.2.2.2.2.2.2.2.2.2.2.2.2.2.2.2.2.1
theorem seX12_readEvent : Cond.selects (cz_on 12) (cz_nm mX12_readEvent) (cz_nm mX12_readEvent) ∈ cz_T := bq2.2.2.2.2.2.2.2.2.2.2.2.2.2.2.2.2.2.1
theorem myX12_readCheese : cz_my mX12_readCheese 12 0 := ⟨rfl, bq31.2.2.2.2.2.2.2.2.2.2.2.2.2.2.2.2.2.2.2.2.2.2.2.2.2.2.2.2.2.1, ini12, nv12, nw12, pd0⟩
theorem inX12_readCheese : Cond.instanceMethod (cz_nm mX12_readCheese) ∈ cz_T := bq31.2.2.2.2.2.2.2.2.2.2.2.2.2.2.2.2.2.2.2.2.2.2.2.2.2.2.2.2.1
theorem seX12_readCheese : Cond.selects (cz_on 12) (cz_nm mX12_readCheese) (cz_nm mX12_readCheese) ∈ cz_T := bq2.2.2.2.2.2.2.2.2.2.2.2.2.2.2.2.2.2.2.2.1
theorem myX12_readRising : cz_my mX12_readRising 12 3 := ⟨rfl, bq32.2.2.2.2.2.2.2.2.2.2.2.2.2.2.2.2.2.2.2.2.2.1, ini12, nv12, nw12, pd42⟩
theorem inX12_readRising : Cond.instanceMethod (cz_nm mX12_readRising) ∈ cz_T := bq32.2.2.2.2.2.2.2.2.2.2.2.2.2.2.2.2.2.2.2.2.1
theorem seX12_readRising : Cond.selects (cz_on 12) (cz_nm mX12_readRising) (cz_nm mX12_readRising) ∈ cz_T := bq2.2.2.2.2.2.2.2.2.2.2.2.2.2.2.2.2.2.2.2.2.2.2.2.2.2.1
theorem myX12_readAlmanac : cz_my mX12_readAlmanac 12 0 := ⟨rfl, bq32.2.2.2.2.2.2.2.2.2.2.2.2.2.2.2.2.2.2.1, ini12, nv12, nw12, pd0⟩
theorem inX12_readAlmanac : Cond.instanceMethod (cz_nm mX12_readAlmanac) ∈ cz_T := bq32.2.2.2.2.2.2.2.2.2.2.2.2.2.2.2.2.2.1
theorem seX12_readAlmanac : Cond.selects (cz_on 12) (cz_nm mX12_readAlmanac) (cz_nm mX12_readAlmanac) ∈ cz_T := bq2.2.2.2.2.2.2.2.2.2.2.2.2.2.2.2.2.2.2.2.2.2.2.2.2.1
theorem myX12_readTurner : cz_my mX12_readTurner 12 0 := ⟨rfl, bq32.2.2.2.2.2.2.2.2.2.2.2.2.2.2.2.2.2.2.2.2.2.2.2.2.2.2.2.1, ini12, nv12, nw12, pd0⟩
theorem inX12_readTurner : Cond.instanceMethod (cz_nm mX12_readTurner) ∈ cz_T := bq32.2.2.2.2.2.2.2.2.2.2.2.2.2.2.2.2.2.2.2.2.2.2.2.2.2.2.1
theorem seX12_readTurner : Cond.selects (cz_on 12) (cz_nm mX12_readTurner) (cz_nm mX12_readTurner) ∈ cz_T := bq2.2.2.2.2.2.2.2.2.2.2.2.2.2.2.2.2.2.2.2.2.2.2.2.2.2.2.2.1
theorem myX12_readCall : cz_my mX12_readCall 12 0 := ⟨rfl, bq33.2.2.2.1, ini12, nv12, nw12, pd0⟩
theorem inX12_readCall : Cond.instanceMethod (cz_nm mX12_readCall) ∈ cz_T := bq33.2.2.1
theorem seX12_readCall : Cond.selects (cz_on 12) (cz_nm mX12_readCall) (cz_nm mX12_readCall) ∈ cz_T := bq2.2.2.2.2.2.2.2.2.2.2.2.2.2.2.2.2.2.2.2.2.2.2.2.2.2.2.2.2.1
theorem myX12_readSlice : cz_my mX12_readSlice 12 0 := ⟨rfl, bq33.2.2.2.2.2.2.1, ini12, nv12, nw12, pd0⟩
theorem inX12_readSlice : Cond.instanceMethod (cz_nm mX12_readSlice) ∈ cz_T := bq33.2.2.2.2.2.1
theorem seX12_readSlice : Cond.selects (cz_on 12) (cz_nm mX12_readSlice) (cz_nm mX12_readSlice) ∈ cz_T := bq2.2.2.2.2.2.2.2.2.2.2.2.2.2.2.2.2.2.2.2.2.2.2.2.2.2.2.2.2.2.1
theorem myX12_feed : cz_my mX12_feed 12 5 := ⟨rfl, bq29.2.2.2.2.2.2.2.2.2.1, ini12, nv12, nw12, pd28⟩
theorem inX12_feed : Cond.instanceMethod (cz_nm mX12_feed) ∈ cz_T := bq29.2.2.2.2.2.2.2.1
theorem seX12_feed : Cond.selects (cz_on 12) (cz_nm mX12_feed) (cz_nm mX12_feed) ∈ cz_T := bq29.2.2.2.2.2.2.2.2.1
theorem myX12_alp : cz_my mX12_alp 12 1 := ⟨rfl, bq29.2.2.2.2.2.2.2.2.2.2.2.2.2.1, ini12, nv12, nw12, pd1⟩
theorem inX12_alp : Cond.instanceMethod (cz_nm mX12_alp) ∈ cz_T := bq29.2.2.2.2.2.2.2.2.2.2.2.1
theorem seX12_alp : Cond.selects (cz_on 12) (cz_nm mX12_alp) (cz_nm mX12_alp) ∈ cz_T := bq29.2.2.2.2.2.2.2.2.2.2.2.2.1
theorem myX12_fault : cz_my mX12_fault 12 0 := ⟨rfl, bq33.2.2.2.2.2.2.2.2.2.2.2.2.2.1, ini12, nv12, nw12, pd14⟩
theorem inX12_fault : Cond.instanceMethod (cz_nm mX12_fault) ∈ cz_T := bq33.2.2.2.2.2.2.2.2.2.2.2.1
theorem seX12_fault : Cond.selects (cz_on 12) (cz_nm mX12_fault) (cz_nm mX12_fault) ∈ cz_T := bq33.2.2.2.2.2.2.2.2.2.2.2.2.1
theorem myX12_where : cz_my mX12_where 12 0 := ⟨rfl, bq33.2.2.2.2.2.2.2.2.2.2.2.2.2.2.2.2.2.1, ini12, nv12, nw12, pd14⟩
theorem inX12_where : Cond.instanceMethod (cz_nm mX12_where) ∈ cz_T := bq33.2.2.2.2.2.2.2.2.2.2.2.2.2.2.2.1
theorem seX12_where : Cond.selects (cz_on 12) (cz_nm mX12_where) (cz_nm mX12_where) ∈ cz_T := bq33.2.2.2.2.2.2.2.2.2.2.2.2.2.2.2.2.1
theorem myX12_events : cz_my mX12_events 12 0 := ⟨rfl, bq34.1, ini12, nv12, nw12, pd14⟩
theorem inX12_events : Cond.instanceMethod (cz_nm mX12_events) ∈ cz_T := bq33.2.2.2.2.2.2.2.2.2.2.2.2.2.2.2.2.2.2.2.2.2.2.2.2.2.2.2.2.2.1
theorem seX12_events : Cond.selects (cz_on 12) (cz_nm mX12_events) (cz_nm mX12_events) ∈ cz_T := bq3.2.2.2.1
theorem myX12_kindOf : cz_my mX12_kindOf 12 1 := ⟨rfl, bq34.2.2.2.2.2.2.2.2.2.2.2.2.1, ini12, nv12, nw12, pd1⟩
theorem inX12_kindOf : Cond.instanceMethod (cz_nm mX12_kindOf) ∈ cz_T := bq34.2.2.2.2.2.2.2.2.2.2.2.1
theorem seX12_kindOf : Cond.selects (cz_on 12) (cz_nm mX12_kindOf) (cz_nm mX12_kindOf) ∈ cz_T := bq3.2.2.2.2.2.2.2.1
theorem myX12_hutOf : cz_my mX12_hutOf 12 1 := ⟨rfl, bq34.2.2.2.2.2.2.2.2.2.2.2.2.2.2.2.1, ini12, nv12, nw12, pd1⟩
theorem inX12_hutOf : Cond.instanceMethod (cz_nm mX12_hutOf) ∈ cz_T := bq34.2.2.2.2.2.2.2.2.2.2.2.2.2.2.1
theorem seX12_hutOf : Cond.selects (cz_on 12) (cz_nm mX12_hutOf) (cz_nm mX12_hutOf) ∈ cz_T := bq3.2.2.2.2.2.2.2.2.1
theorem myX12_fromOf : cz_my mX12_fromOf 12 1 := ⟨rfl, bq34.2.2.2.1, ini12, nv12, nw12, pd1⟩
theorem inX12_fromOf : Cond.instanceMethod (cz_nm mX12_fromOf) ∈ cz_T := bq34.2.2.1
theorem seX12_fromOf : Cond.selects (cz_on 12) (cz_nm mX12_fromOf) (cz_nm mX12_fromOf) ∈ cz_T := bq3.2.2.2.2.1
theorem myX12_toOf : cz_my mX12_toOf 12 1 := ⟨rfl, bq34.2.2.2.2.2.2.1, ini12, nv12, nw12, pd1⟩
theorem inX12_toOf : Cond.instanceMethod (cz_nm mX12_toOf) ∈ cz_T := bq34.2.2.2.2.2.1
theorem seX12_toOf : Cond.selects (cz_on 12) (cz_nm mX12_toOf) (cz_nm mX12_toOf) ∈ cz_T := bq3.2.2.2.2.2.1
theorem myX12_laysLight : cz_my mX12_laysLight 12 1 := ⟨rfl, bq33.2.2.2.2.2.2.2.2.2.2.2.2.2.2.2.2.2.2.2.2.2.2.2.2.2.2.2.1, ini12, nv12, nw12, pd33⟩
theorem inX12_laysLight : Cond.instanceMethod (cz_nm mX12_laysLight) ∈ cz_T := bq33.2.2.2.2.2.2.2.2.2.2.2.2.2.2.2.2.2.2.2.2.2.2.2.2.2.2.1
theorem seX12_laysLight : Cond.selects (cz_on 12) (cz_nm mX12_laysLight) (cz_nm mX12_laysLight) ∈ cz_T := bq3.2.2.1
theorem myX12_marksLight : cz_my mX12_marksLight 12 2 := ⟨rfl, bq34.2.2.2.2.2.2.2.2.2.1, ini12, nv12, nw12, pd3⟩
theorem inX12_marksLight : Cond.instanceMethod (cz_nm mX12_marksLight) ∈ cz_T := bq34.2.2.2.2.2.2.2.2.1
theorem seX12_marksLight : Cond.selects (cz_on 12) (cz_nm mX12_marksLight) (cz_nm mX12_marksLight) ∈ cz_T := bq3.2.2.2.2.2.2.1
theorem myX12_changesIn : cz_my mX12_changesIn 12 2 := ⟨rfl, bq35.2.2.2.2.2.2.2.2.2.2.2.2.1, ini12, nv12, nw12, pd10⟩
theorem inX12_changesIn : Cond.instanceMethod (cz_nm mX12_changesIn) ∈ cz_T := bq35.2.2.2.2.2.2.2.2.2.2.2.1
theorem seX12_changesIn : Cond.selects (cz_on 12) (cz_nm mX12_changesIn) (cz_nm mX12_changesIn) ∈ cz_T := bq3.2.2.2.2.2.2.2.2.2.2.2.1
theorem myX12_seemsToIn : cz_my mX12_seemsToIn 12 2 := ⟨rfl, bq35.2.2.2.2.2.2.2.2.2.1, ini12, nv12, nw12, pd10⟩
theorem inX12_seemsToIn : Cond.instanceMethod (cz_nm mX12_seemsToIn) ∈ cz_T := bq35.2.2.2.2.2.2.2.2.1
theorem seX12_seemsToIn : Cond.selects (cz_on 12) (cz_nm mX12_seemsToIn) (cz_nm mX12_seemsToIn) ∈ cz_T := bq3.2.2.2.2.2.2.2.2.2.2.1
theorem myX12_isInAlmanac : cz_my mX12_isInAlmanac 12 1 := ⟨rfl, bq36.2.2.2.2.2.2.2.2.2.2.2.2.2.2.2.2.2.1, ini12, nv12, nw12, pd4⟩
theorem inX12_isInAlmanac : Cond.instanceMethod (cz_nm mX12_isInAlmanac) ∈ cz_T := bq36.2.2.2.2.2.2.2.2.2.2.2.2.2.2.2.2.1
theorem seX12_isInAlmanac : Cond.selects (cz_on 12) (cz_nm mX12_isInAlmanac) (cz_nm mX12_isInAlmanac) ∈ cz_T := bq3.2.2.2.2.2.2.2.2.2.2.2.2.2.2.2.2.1
theorem myX12_noticesIn : cz_my mX12_noticesIn 12 3 := ⟨rfl, bq36.2.2.2.2.2.2.2.2.2.2.2.2.2.2.1, ini12, nv12, nw12, pd37⟩
theorem inX12_noticesIn : Cond.instanceMethod (cz_nm mX12_noticesIn) ∈ cz_T := bq36.2.2.2.2.2.2.2.2.2.2.2.2.2.1
theorem seX12_noticesIn : Cond.selects (cz_on 12) (cz_nm mX12_noticesIn) (cz_nm mX12_noticesIn) ∈ cz_T := bq3.2.2.2.2.2.2.2.2.2.2.2.2.2.2.2.1
theorem myX12_isAwake : cz_my mX12_isAwake 12 3 := ⟨rfl, bq36.2.2.2.2.2.2.2.1, ini12, nv12, nw12, pd37⟩
theorem inX12_isAwake : Cond.instanceMethod (cz_nm mX12_isAwake) ∈ cz_T := bq36.2.2.2.2.2.2.1
theorem seX12_isAwake : Cond.selects (cz_on 12) (cz_nm mX12_isAwake) (cz_nm mX12_isAwake) ∈ cz_T := bq3.2.2.2.2.2.2.2.2.2.2.2.2.2.2.1
theorem myX12_goes : cz_my mX12_goes 12 2 := ⟨rfl, bq37.1, ini12, nv12, nw12, pd7⟩
theorem inX12_goes : Cond.instanceMethod (cz_nm mX12_goes) ∈ cz_T := bq36.2.2.2.2.2.2.2.2.2.2.2.2.2.2.2.2.2.2.2.2.2.2.2.2.2.2.2.2.2.1
theorem seX12_goes : Cond.selects (cz_on 12) (cz_nm mX12_goes) (cz_nm mX12_goes) ∈ cz_T := bq3.2.2.2.2.2.2.2.2.2.2.2.2.2.2.2.2.2.2.2.1
theorem myX12_turns : cz_my mX12_turns 12 2 := ⟨rfl, bq37.2.2.2.1, ini12, nv12, nw12, pd3⟩
theorem inX12_turns : Cond.instanceMethod (cz_nm mX12_turns) ∈ cz_T := bq37.2.2.1
theorem seX12_turns : Cond.selects (cz_on 12) (cz_nm mX12_turns) (cz_nm mX12_turns) ∈ cz_T := bq3.2.2.2.2.2.2.2.2.2.2.2.2.2.2.2.2.2.2.2.2.1
theorem myX12_notes : cz_my mX12_notes 12 2 := ⟨rfl, bq37.2.2.2.2.2.2.1, ini12, nv12, nw12, pd3⟩
theorem inX12_notes : Cond.instanceMethod (cz_nm mX12_notes) ∈ cz_T := bq37.2.2.2.2.2.1
theorem seX12_notes : Cond.selects (cz_on 12) (cz_nm mX12_notes) (cz_nm mX12_notes) ∈ cz_T := bq3.2.2.2.2.2.2.2.2.2.2.2.2.2.2.2.2.2.2.2.2.2.1
theorem myX12_priceOf : cz_my mX12_priceOf 12 1 := ⟨rfl, bq37.2.2.2.2.2.2.2.2.2.1, ini12, nv12, nw12, pd1⟩
theorem inX12_priceOf : Cond.instanceMethod (cz_nm mX12_priceOf) ∈ cz_T := bq37.2.2.2.2.2.2.2.2.1
theorem seX12_priceOf : Cond.selects (cz_on 12) (cz_nm mX12_priceOf) (cz_nm mX12_priceOf) ∈ cz_T := bq3.2.2.2.2.2.2.2.2.2.2.2.2.2.2.2.2.2.2.2.2.2.2.1
theorem myX12_everybody : cz_my mX12_everybody 12 0 := ⟨rfl, bq36.2.2.2.2.2.2.2.2.2.2.2.2.2.2.2.2.2.2.2.2.2.2.2.2.2.2.2.1, ini12, nv12, nw12, pd14⟩
theorem inX12_everybody : Cond.instanceMethod (cz_nm mX12_everybody) ∈ cz_T := bq36.2.2.2.2.2.2.2.2.2.2.2.2.2.2.2.2.2.2.2.2.2.2.2.2.2.2.1
theorem seX12_everybody : Cond.selects (cz_on 12) (cz_nm mX12_everybody) (cz_nm mX12_everybody) ∈ cz_T := bq3.2.2.2.2.2.2.2.2.2.2.2.2.2.2.2.2.2.2.1
theorem myX12_tonight : cz_my mX12_tonight 12 0 := ⟨rfl, bq36.2.2.2.2.2.2.2.2.2.2.2.2.2.2.2.2.2.2.2.2.2.2.2.2.1, ini12, nv12, nw12, pd14⟩
theorem inX12_tonight : Cond.instanceMethod (cz_nm mX12_tonight) ∈ cz_T := bq36.2.2.2.2.2.2.2.2.2.2.2.2.2.2.2.2.2.2.2.2.2.2.2.1
theorem seX12_tonight : Cond.selects (cz_on 12) (cz_nm mX12_tonight) (cz_nm mX12_tonight) ∈ cz_T := bq3.2.2.2.2.2.2.2.2.2.2.2.2.2.2.2.2.2.1
theorem myX12_isHut : cz_my mX12_isHut 12 1 := ⟨rfl, bq35.2.2.1, ini12, nv12, nw12, pd4⟩
theorem inX12_isHut : Cond.instanceMethod (cz_nm mX12_isHut) ∈ cz_T := bq35.2.1
theorem seX12_isHut : Cond.selects (cz_on 12) (cz_nm mX12_isHut) (cz_nm mX12_isHut) ∈ cz_T := bq3.2.2.2.2.2.2.2.2.2.1
theorem myX12_isTurner : cz_my mX12_isTurner 12 1 := ⟨rfl, bq36.2.2.2.2.1, ini12, nv12, nw12, pd4⟩
theorem inX12_isTurner : Cond.instanceMethod (cz_nm mX12_isTurner) ∈ cz_T := bq36.2.2.2.1
theorem seX12_isTurner : Cond.selects (cz_on 12) (cz_nm mX12_isTurner) (cz_nm mX12_isTurner) ∈ cz_T := bq3.2.2.2.2.2.2.2.2.2.2.2.2.2.1
theorem myX12_isCheese : cz_my mX12_isCheese 12 1 := ⟨rfl, bq37.2.2.2.2.2.2.2.2.2.2.2.2.2.2.2.2.2.2.2.2.2.2.2.2.1, ini12, nv12, nw12, pd4⟩
theorem inX12_isCheese : Cond.instanceMethod (cz_nm mX12_isCheese) ∈ cz_T := bq37.2.2.2.2.2.2.2.2.2.2.2.2.2.2.2.2.2.2.2.2.2.2.2.1
theorem seX12_isCheese : Cond.selects (cz_on 12) (cz_nm mX12_isCheese) (cz_nm mX12_isCheese) ∈ cz_T := bq3.2.2.2.2.2.2.2.2.2.2.2.2.2.2.2.2.2.2.2.2.2.2.2.2.1
theorem myX12_isMinute : cz_my mX12_isMinute 12 1 := ⟨rfl, bq33.2.2.2.2.2.2.2.2.2.2.2.2.2.2.2.2.2.2.2.2.2.2.2.2.1, ini12, nv12, nw12, pd4⟩
theorem inX12_isMinute : Cond.instanceMethod (cz_nm mX12_isMinute) ∈ cz_T := bq33.2.2.2.2.2.2.2.2.2.2.2.2.2.2.2.2.2.2.2.2.2.2.2.1
theorem seX12_isMinute : Cond.selects (cz_on 12) (cz_nm mX12_isMinute) (cz_nm mX12_isMinute) ∈ cz_T := bq3.2.1
theorem myX12_sky : cz_my mX12_sky 12 1 := ⟨rfl, bq33.2.2.2.2.2.2.2.2.2.2.2.2.2.2.2.2.2.2.2.2.2.1, ini12, nv12, nw12, pd1⟩
theorem inX12_sky : Cond.instanceMethod (cz_nm mX12_sky) ∈ cz_T := bq33.2.2.2.2.2.2.2.2.2.2.2.2.2.2.2.2.2.2.2.1
theorem seX12_sky : Cond.selects (cz_on 12) (cz_nm mX12_sky) (cz_nm mX12_sky) ∈ cz_T := bq33.2.2.2.2.2.2.2.2.2.2.2.2.2.2.2.2.2.2.2.2.1
theorem myX12_light : cz_my mX12_light 12 3 := ⟨rfl, bq34.2.2.2.2.2.2.2.2.2.2.2.2.2.2.2.2.2.2.2.1, ini12, nv12, nw12, pd29⟩
theorem inX12_light : Cond.instanceMethod (cz_nm mX12_light) ∈ cz_T := bq34.2.2.2.2.2.2.2.2.2.2.2.2.2.2.2.2.2.1
theorem seX12_light : Cond.selects (cz_on 12) (cz_nm mX12_light) (cz_nm mX12_light) ∈ cz_T := bq34.2.2.2.2.2.2.2.2.2.2.2.2.2.2.2.2.2.2.1
theorem myX12_changes : cz_my mX12_changes 12 2 := ⟨rfl, bq35.2.2.2.2.2.2.1, ini12, nv12, nw12, pd30⟩
theorem inX12_changes : Cond.instanceMethod (cz_nm mX12_changes) ∈ cz_T := bq35.2.2.2.2.1
theorem seX12_changes : Cond.selects (cz_on 12) (cz_nm mX12_changes) (cz_nm mX12_changes) ∈ cz_T := bq35.2.2.2.2.2.1
theorem myX12_change : cz_my mX12_change 12 2 := ⟨rfl, bq35.2.2.2.2.2.2.2.2.2.2.2.2.2.2.2.2.1, ini12, nv12, nw12, pd7⟩
theorem inX12_change : Cond.instanceMethod (cz_nm mX12_change) ∈ cz_T := bq35.2.2.2.2.2.2.2.2.2.2.2.2.2.2.1
theorem seX12_change : Cond.selects (cz_on 12) (cz_nm mX12_change) (cz_nm mX12_change) ∈ cz_T := bq35.2.2.2.2.2.2.2.2.2.2.2.2.2.2.2.1
theorem myX12_dueIn : cz_my mX12_dueIn 12 1 := ⟨rfl, bq35.2.2.2.2.2.2.2.2.2.2.2.2.2.2.2.2.2.2.2.2.2.2.2.1, ini12, nv12, nw12, pd1⟩
theorem inX12_dueIn : Cond.instanceMethod (cz_nm mX12_dueIn) ∈ cz_T := bq35.2.2.2.2.2.2.2.2.2.2.2.2.2.2.2.2.2.2.2.2.2.2.1
theorem seX12_dueIn : Cond.selects (cz_on 12) (cz_nm mX12_dueIn) (cz_nm mX12_dueIn) ∈ cz_T := bq3.2.2.2.2.2.2.2.2.2.2.2.2.1
theorem myX12_peak : cz_my mX12_peak 12 0 := ⟨rfl, bq35.2.2.2.2.2.2.2.2.2.2.2.2.2.2.2.2.2.2.2.2.1, ini12, nv12, nw12, pd14⟩
theorem inX12_peak : Cond.instanceMethod (cz_nm mX12_peak) ∈ cz_T := bq35.2.2.2.2.2.2.2.2.2.2.2.2.2.2.2.2.2.2.1
theorem seX12_peak : Cond.selects (cz_on 12) (cz_nm mX12_peak) (cz_nm mX12_peak) ∈ cz_T := bq35.2.2.2.2.2.2.2.2.2.2.2.2.2.2.2.2.2.2.2.1
theorem myX12_due : cz_my mX12_due 12 1 := ⟨rfl, bq35.2.2.2.2.2.2.2.2.2.2.2.2.2.2.2.2.2.2.2.2.2.2.2.2.2.2.2.1, ini12, nv12, nw12, pd1⟩
theorem inX12_due : Cond.instanceMethod (cz_nm mX12_due) ∈ cz_T := bq35.2.2.2.2.2.2.2.2.2.2.2.2.2.2.2.2.2.2.2.2.2.2.2.2.2.1
theorem seX12_due : Cond.selects (cz_on 12) (cz_nm mX12_due) (cz_nm mX12_due) ∈ cz_T := bq35.2.2.2.2.2.2.2.2.2.2.2.2.2.2.2.2.2.2.2.2.2.2.2.2.2.2.1
theorem myX12_awake : cz_my mX12_awake 12 2 := ⟨rfl, bq36.2.1, ini12, nv12, nw12, pd7⟩
theorem inX12_awake : Cond.instanceMethod (cz_nm mX12_awake) ∈ cz_T := bq35.2.2.2.2.2.2.2.2.2.2.2.2.2.2.2.2.2.2.2.2.2.2.2.2.2.2.2.2.2.1
theorem seX12_awake : Cond.selects (cz_on 12) (cz_nm mX12_awake) (cz_nm mX12_awake) ∈ cz_T := bq36.1
theorem myX12_notices : cz_my mX12_notices 12 3 := ⟨rfl, bq36.2.2.2.2.2.2.2.2.2.2.2.1, ini12, nv12, nw12, pd31⟩
theorem inX12_notices : Cond.instanceMethod (cz_nm mX12_notices) ∈ cz_T := bq36.2.2.2.2.2.2.2.2.2.1
theorem seX12_notices : Cond.selects (cz_on 12) (cz_nm mX12_notices) (cz_nm mX12_notices) ∈ cz_T := bq36.2.2.2.2.2.2.2.2.2.2.1
theorem myX12_work : cz_my mX12_work 12 2 := ⟨rfl, bq36.2.2.2.2.2.2.2.2.2.2.2.2.2.2.2.2.2.2.2.2.2.1, ini12, nv12, nw12, pd7⟩
theorem inX12_work : Cond.instanceMethod (cz_nm mX12_work) ∈ cz_T := bq36.2.2.2.2.2.2.2.2.2.2.2.2.2.2.2.2.2.2.2.1
theorem seX12_work : Cond.selects (cz_on 12) (cz_nm mX12_work) (cz_nm mX12_work) ∈ cz_T := bq36.2.2.2.2.2.2.2.2.2.2.2.2.2.2.2.2.2.2.2.2.1
theorem myX12_worth : cz_my mX12_worth 12 1 := ⟨rfl, bq37.2.2.2.2.2.2.2.2.2.2.2.2.2.1, ini12, nv12, nw12, pd1⟩
theorem inX12_worth : Cond.instanceMethod (cz_nm mX12_worth) ∈ cz_T := bq37.2.2.2.2.2.2.2.2.2.2.2.1
theorem seX12_worth : Cond.selects (cz_on 12) (cz_nm mX12_worth) (cz_nm mX12_worth) ∈ cz_T := bq37.2.2.2.2.2.2.2.2.2.2.2.2.1
theorem myX12_turned : cz_my mX12_turned 12 2 := ⟨rfl, bq37.2.2.2.2.2.2.2.2.2.2.2.2.2.2.2.2.2.2.2.2.2.1, ini12, nv12, nw12, pd7⟩
theorem inX12_turned : Cond.instanceMethod (cz_nm mX12_turned) ∈ cz_T := bq37.2.2.2.2.2.2.2.2.2.2.2.2.2.2.2.2.2.2.2.1
theorem seX12_turned : Cond.selects (cz_on 12) (cz_nm mX12_turned) (cz_nm mX12_turned) ∈ cz_T := bq37.2.2.2.2.2.2.2.2.2.2.2.2.2.2.2.2.2.2.2.2.1
theorem myX12_up : cz_my mX12_up 12 2 := ⟨rfl, bq37.2.2.2.2.2.2.2.2.2.2.2.2.2.2.2.2.2.2.2.2.2.2.2.2.2.2.2.2.1, ini12, nv12, nw12, pd7⟩
theorem inX12_up : Cond.instanceMethod (cz_nm mX12_up) ∈ cz_T := bq37.2.2.2.2.2.2.2.2.2.2.2.2.2.2.2.2.2.2.2.2.2.2.2.2.2.2.1
theorem seX12_up : Cond.selects (cz_on 12) (cz_nm mX12_up) (cz_nm mX12_up) ∈ cz_T := bq37.2.2.2.2.2.2.2.2.2.2.2.2.2.2.2.2.2.2.2.2.2.2.2.2.2.2.2.1
theorem myX12_cheese : cz_my mX12_cheese 12 2 := ⟨rfl, bq38.2.2.1, ini12, nv12, nw12, pd7⟩
theorem inX12_cheese : Cond.instanceMethod (cz_nm mX12_cheese) ∈ cz_T := bq38.1
theorem seX12_cheese : Cond.selects (cz_on 12) (cz_nm mX12_cheese) (cz_nm mX12_cheese) ∈ cz_T := bq38.2.1
theorem myX12_veinAt : cz_my mX12_veinAt 12 2 := ⟨rfl, bq38.2.2.2.2.2.2.2.2.2.1, ini12, nv12, nw12, pd7⟩
theorem inX12_veinAt : Cond.instanceMethod (cz_nm mX12_veinAt) ∈ cz_T := bq38.2.2.2.2.2.2.2.2.1
theorem seX12_veinAt : Cond.selects (cz_on 12) (cz_nm mX12_veinAt) (cz_nm mX12_veinAt) ∈ cz_T := bq3.2.2.2.2.2.2.2.2.2.2.2.2.2.2.2.2.2.2.2.2.2.2.2.2.2.1
theorem myX12_vein : cz_my mX12_vein 12 2 := ⟨rfl, bq38.2.2.2.2.2.2.1, ini12, nv12, nw12, pd7⟩
theorem inX12_vein : Cond.instanceMethod (cz_nm mX12_vein) ∈ cz_T := bq38.2.2.2.2.1
theorem seX12_vein : Cond.selects (cz_on 12) (cz_nm mX12_vein) (cz_nm mX12_vein) ∈ cz_T := bq38.2.2.2.2.2.1
theorem myX12_cause : cz_my mX12_cause 12 2 := ⟨rfl, bq38.2.2.2.2.2.2.2.2.2.2.2.2.2.1, ini12, nv12, nw12, pd7⟩
theorem inX12_cause : Cond.instanceMethod (cz_nm mX12_cause) ∈ cz_T := bq38.2.2.2.2.2.2.2.2.2.2.2.1
theorem seX12_cause : Cond.selects (cz_on 12) (cz_nm mX12_cause) (cz_nm mX12_cause) ∈ cz_T := bq38.2.2.2.2.2.2.2.2.2.2.2.2.1
theorem myX12_total : cz_my mX12_total 12 0 := ⟨rfl, bq38.2.2.2.2.2.2.2.2.2.2.2.2.2.2.2.2.2.1, ini12, nv12, nw12, pd14⟩
theorem inX12_total : Cond.instanceMethod (cz_nm mX12_total) ∈ cz_T := bq38.2.2.2.2.2.2.2.2.2.2.2.2.2.2.2.1
theorem seX12_total : Cond.selects (cz_on 12) (cz_nm mX12_total) (cz_nm mX12_total) ∈ cz_T := bq38.2.2.2.2.2.2.2.2.2.2.2.2.2.2.2.2.1
theorem myX12_isEvent : cz_my mX12_isEvent 12 1 := ⟨rfl, bq38.2.2.2.2.2.2.2.2.2.2.2.2.2.2.2.2.2.2.2.2.2.2.2.2.1, ini12, nv12, nw12, pd4⟩
theorem inX12_isEvent : Cond.instanceMethod (cz_nm mX12_isEvent) ∈ cz_T := bq38.2.2.2.2.2.2.2.2.2.2.2.2.2.2.2.2.2.2.2.2.2.2.2.1
theorem seX12_isEvent : Cond.selects (cz_on 12) (cz_nm mX12_isEvent) (cz_nm mX12_isEvent) ∈ cz_T := bq3.2.2.2.2.2.2.2.2.2.2.2.2.2.2.2.2.2.2.2.2.2.2.2.2.2.2.1
theorem myX12_without : cz_my mX12_without 12 1 := ⟨rfl, bq38.2.2.2.2.2.2.2.2.2.2.2.2.2.2.2.2.2.2.2.2.2.1, ini12, nv12, nw12, pd1⟩
theorem inX12_without : Cond.instanceMethod (cz_nm mX12_without) ∈ cz_T := bq38.2.2.2.2.2.2.2.2.2.2.2.2.2.2.2.2.2.2.2.1
theorem seX12_without : Cond.selects (cz_on 12) (cz_nm mX12_without) (cz_nm mX12_without) ∈ cz_T := bq38.2.2.2.2.2.2.2.2.2.2.2.2.2.2.2.2.2.2.2.2.1
theorem myX12_wakeNow : cz_my mX12_wakeNow 12 0 := ⟨rfl, bq39.2.1, ini12, nv12, nw12, pd14⟩
theorem inX12_wakeNow : Cond.instanceMethod (cz_nm mX12_wakeNow) ∈ cz_T := bq39.1
theorem seX12_wakeNow : Cond.selects (cz_on 12) (cz_nm mX12_wakeNow) (cz_nm mX12_wakeNow) ∈ cz_T := bq3.2.2.2.2.2.2.2.2.2.2.2.2.2.2.2.2.2.2.2.2.2.2.2.2.2.2.2.1
theorem myX12_wake : cz_my mX12_wake 12 0 := ⟨rfl, bq38.2.2.2.2.2.2.2.2.2.2.2.2.2.2.2.2.2.2.2.2.2.2.2.2.2.2.2.2.1, ini12, nv12, nw12, pd14⟩
theorem inX12_wake : Cond.instanceMethod (cz_nm mX12_wake) ∈ cz_T := bq38.2.2.2.2.2.2.2.2.2.2.2.2.2.2.2.2.2.2.2.2.2.2.2.2.2.2.1
theorem seX12_wake : Cond.selects (cz_on 12) (cz_nm mX12_wake) (cz_nm mX12_wake) ∈ cz_T := bq38.2.2.2.2.2.2.2.2.2.2.2.2.2.2.2.2.2.2.2.2.2.2.2.2.2.2.2.1
theorem myX12_wakeTotal : cz_my mX12_wakeTotal 12 0 := ⟨rfl, bq39.2.2.2.2.2.2.2.2.1, ini12, nv12, nw12, pd14⟩
theorem inX12_wakeTotal : Cond.instanceMethod (cz_nm mX12_wakeTotal) ∈ cz_T := bq39.2.2.2.2.2.2.1
theorem seX12_wakeTotal : Cond.selects (cz_on 12) (cz_nm mX12_wakeTotal) (cz_nm mX12_wakeTotal) ∈ cz_T := bq39.2.2.2.2.2.2.2.1
theorem myX12_missesNone : cz_my mX12_missesNone 12 1 := ⟨rfl, bq39.2.2.2.2.2.2.2.2.2.2.2.2.2.2.2.2.2.2.1, ini12, nv12, nw12, pd4⟩
theorem inX12_missesNone : Cond.instanceMethod (cz_nm mX12_missesNone) ∈ cz_T := bq39.2.2.2.2.2.2.2.2.2.2.2.2.2.2.2.2.2.1
theorem seX12_missesNone : Cond.selects (cz_on 12) (cz_nm mX12_missesNone) (cz_nm mX12_missesNone) ∈ cz_T := bq3.2.2.2.2.2.2.2.2.2.2.2.2.2.2.2.2.2.2.2.2.2.2.2.2.2.2.2.2.2.1
theorem myX12_fewestNow : cz_my mX12_fewestNow 12 0 := ⟨rfl, bq39.2.2.2.2.2.2.2.2.2.2.2.2.2.2.2.1, ini12, nv12, nw12, pd14⟩
theorem inX12_fewestNow : Cond.instanceMethod (cz_nm mX12_fewestNow) ∈ cz_T := bq39.2.2.2.2.2.2.2.2.2.2.2.2.2.2.1
theorem seX12_fewestNow : Cond.selects (cz_on 12) (cz_nm mX12_fewestNow) (cz_nm mX12_fewestNow) ∈ cz_T := bq3.2.2.2.2.2.2.2.2.2.2.2.2.2.2.2.2.2.2.2.2.2.2.2.2.2.2.2.2.1
theorem myX12_fewest : cz_my mX12_fewest 12 0 := ⟨rfl, bq39.2.2.2.2.2.2.2.2.2.2.2.2.1, ini12, nv12, nw12, pd14⟩
theorem inX12_fewest : Cond.instanceMethod (cz_nm mX12_fewest) ∈ cz_T := bq39.2.2.2.2.2.2.2.2.2.2.1
theorem seX12_fewest : Cond.selects (cz_on 12) (cz_nm mX12_fewest) (cz_nm mX12_fewest) ∈ cz_T := bq39.2.2.2.2.2.2.2.2.2.2.2.1
theorem myX12_fewestBy : cz_my mX12_fewestBy 12 0 := ⟨rfl, bq39.2.2.2.2.2.2.2.2.2.2.2.2.2.2.2.2.2.2.2.2.2.2.1, ini12, nv12, nw12, pd14⟩
theorem inX12_fewestBy : Cond.instanceMethod (cz_nm mX12_fewestBy) ∈ cz_T := bq39.2.2.2.2.2.2.2.2.2.2.2.2.2.2.2.2.2.2.2.2.1
theorem seX12_fewestBy : Cond.selects (cz_on 12) (cz_nm mX12_fewestBy) (cz_nm mX12_fewestBy) ∈ cz_T := bq39.2.2.2.2.2.2.2.2.2.2.2.2.2.2.2.2.2.2.2.2.2.1
theorem myX12_isSlice : cz_my mX12_isSlice 12 1 := ⟨rfl, bq39.2.2.2.2.2.2.2.2.2.2.2.2.2.2.2.2.2.2.2.2.2.2.2.2.2.2.2.2.2.1, ini12, nv12, nw12, pd4⟩
theorem inX12_isSlice : Cond.instanceMethod (cz_nm mX12_isSlice) ∈ cz_T := bq39.2.2.2.2.2.2.2.2.2.2.2.2.2.2.2.2.2.2.2.2.2.2.2.2.2.2.2.2.1
theorem seX12_isSlice : Cond.selects (cz_on 12) (cz_nm mX12_isSlice) (cz_nm mX12_isSlice) ∈ cz_T := bq4.1
theorem myX12_fitsNow : cz_my mX12_fitsNow 12 1 := ⟨rfl, bq40.2.2.1, ini12, nv12, nw12, pd1⟩
theorem inX12_fitsNow : Cond.instanceMethod (cz_nm mX12_fitsNow) ∈ cz_T := bq40.2.1
theorem seX12_fitsNow : Cond.selects (cz_on 12) (cz_nm mX12_fitsNow) (cz_nm mX12_fitsNow) ∈ cz_T := bq4.2.1
theorem myX12_fits : cz_my mX12_fits 12 1 := ⟨rfl, bq39.2.2.2.2.2.2.2.2.2.2.2.2.2.2.2.2.2.2.2.2.2.2.2.2.2.2.1, ini12, nv12, nw12, pd1⟩
theorem inX12_fits : Cond.instanceMethod (cz_nm mX12_fits) ∈ cz_T := bq39.2.2.2.2.2.2.2.2.2.2.2.2.2.2.2.2.2.2.2.2.2.2.2.2.1
theorem seX12_fits : Cond.selects (cz_on 12) (cz_nm mX12_fits) (cz_nm mX12_fits) ∈ cz_T := bq39.2.2.2.2.2.2.2.2.2.2.2.2.2.2.2.2.2.2.2.2.2.2.2.2.2.1
theorem myX12_by : cz_my mX12_by 12 1 := ⟨rfl, bq40.2.2.2.2.2.2.1, ini12, nv12, nw12, pd1⟩
theorem inX12_by : Cond.instanceMethod (cz_nm mX12_by) ∈ cz_T := bq40.2.2.2.2.1
theorem seX12_by : Cond.selects (cz_on 12) (cz_nm mX12_by) (cz_nm mX12_by) ∈ cz_T := bq40.2.2.2.2.2.1
theorem myX12_comes : cz_my mX12_comes 12 2 := ⟨rfl, bq40.2.2.2.2.2.2.2.2.2.2.2.2.2.2.2.2.2.2.2.2.2.2.2.1, ini12, nv12, nw12, pd3⟩
theorem inX12_comes : Cond.instanceMethod (cz_nm mX12_comes) ∈ cz_T := bq40.2.2.2.2.2.2.2.2.2.2.2.2.2.2.2.2.2.2.2.2.2.2.1
theorem seX12_comes : Cond.selects (cz_on 12) (cz_nm mX12_comes) (cz_nm mX12_comes) ∈ cz_T := bq4.2.2.2.2.1
theorem myX12_drawOf : cz_my mX12_drawOf 12 1 := ⟨rfl, bq40.2.2.2.2.2.2.2.2.2.2.2.2.2.2.2.2.2.1, ini12, nv12, nw12, pd1⟩
theorem inX12_drawOf : Cond.instanceMethod (cz_nm mX12_drawOf) ∈ cz_T := bq40.2.2.2.2.2.2.2.2.2.2.2.2.2.2.2.2.1
theorem seX12_drawOf : Cond.selects (cz_on 12) (cz_nm mX12_drawOf) (cz_nm mX12_drawOf) ∈ cz_T := bq4.2.2.2.1
theorem myX12_draws : cz_my mX12_draws 12 0 := ⟨rfl, bq40.2.2.2.2.2.2.2.2.2.2.2.2.2.2.1, ini12, nv12, nw12, pd14⟩
theorem inX12_draws : Cond.instanceMethod (cz_nm mX12_draws) ∈ cz_T := bq40.2.2.2.2.2.2.2.2.2.2.2.2.2.1
theorem seX12_draws : Cond.selects (cz_on 12) (cz_nm mX12_draws) (cz_nm mX12_draws) ∈ cz_T := bq4.2.2.1
theorem myX12_nights : cz_my mX12_nights 12 3 := ⟨rfl, bq40.2.2.2.2.2.2.2.2.2.2.1, ini12, nv12, nw12, pd31⟩
theorem inX12_nights : Cond.instanceMethod (cz_nm mX12_nights) ∈ cz_T := bq40.2.2.2.2.2.2.2.2.1
theorem seX12_nights : Cond.selects (cz_on 12) (cz_nm mX12_nights) (cz_nm mX12_nights) ∈ cz_T := bq40.2.2.2.2.2.2.2.2.2.1
theorem myX12_keeps : cz_my mX12_keeps 12 0 := ⟨rfl, bq41.2.2.2.1, ini12, nv12, nw12, pd0⟩
theorem inX12_keeps : Cond.instanceMethod (cz_nm mX12_keeps) ∈ cz_T := bq41.2.2.1
theorem seX12_keeps : Cond.selects (cz_on 12) (cz_nm mX12_keeps) (cz_nm mX12_keeps) ∈ cz_T := bq4.2.2.2.2.2.2.1
theorem myX12_call : cz_my mX12_call 12 2 := ⟨rfl, bq40.2.2.2.2.2.2.2.2.2.2.2.2.2.2.2.2.2.2.2.2.2.2.2.2.2.2.2.1, ini12, nv12, nw12, pd32⟩
theorem inX12_call : Cond.instanceMethod (cz_nm mX12_call) ∈ cz_T := bq40.2.2.2.2.2.2.2.2.2.2.2.2.2.2.2.2.2.2.2.2.2.2.2.2.2.1
theorem seX12_call : Cond.selects (cz_on 12) (cz_nm mX12_call) (cz_nm mX12_call) ∈ cz_T := bq40.2.2.2.2.2.2.2.2.2.2.2.2.2.2.2.2.2.2.2.2.2.2.2.2.2.2.1
theorem myX12_calls : cz_my mX12_calls 12 0 := ⟨rfl, bq41.2.2.2.2.2.2.2.2.2.2.1, ini12, nv12, nw12, pd14⟩
theorem inX12_calls : Cond.instanceMethod (cz_nm mX12_calls) ∈ cz_T := bq41.2.2.2.2.2.2.2.2.1
theorem seX12_calls : Cond.selects (cz_on 12) (cz_nm mX12_calls) (cz_nm mX12_calls) ∈ cz_T := bq41.2.2.2.2.2.2.2.2.2.1
theorem myX12_cloud : cz_my mX12_cloud 12 2 := ⟨rfl, bq41.2.2.2.2.2.2.2.2.2.2.2.2.2.2.1, ini12, nv12, nw12, pd10⟩
theorem inX12_cloud : Cond.instanceMethod (cz_nm mX12_cloud) ∈ cz_T := bq41.2.2.2.2.2.2.2.2.2.2.2.2.1
theorem seX12_cloud : Cond.selects (cz_on 12) (cz_nm mX12_cloud) (cz_nm mX12_cloud) ∈ cz_T := bq41.2.2.2.2.2.2.2.2.2.2.2.2.2.1
theorem myX12_draw : cz_my mX12_draw 12 0 := ⟨rfl, bq41.2.2.2.2.2.2.2.2.2.2.2.2.2.2.2.2.2.2.1, ini12, nv12, nw12, pd14⟩
theorem inX12_draw : Cond.instanceMethod (cz_nm mX12_draw) ∈ cz_T := bq41.2.2.2.2.2.2.2.2.2.2.2.2.2.2.2.2.1
theorem seX12_draw : Cond.selects (cz_on 12) (cz_nm mX12_draw) (cz_nm mX12_draw) ∈ cz_T := bq41.2.2.2.2.2.2.2.2.2.2.2.2.2.2.2.2.2.1
theorem myX12_lift : cz_my mX12_lift 12 0 := ⟨rfl, bq41.2.2.2.2.2.2.2.2.2.2.2.2.2.2.2.2.2.2.2.2.2.2.1, ini12, nv12, nw12, pd13⟩
theorem inX12_lift : Cond.instanceMethod (cz_nm mX12_lift) ∈ cz_T := bq41.2.2.2.2.2.2.2.2.2.2.2.2.2.2.2.2.2.2.2.2.1
theorem seX12_lift : Cond.selects (cz_on 12) (cz_nm mX12_lift) (cz_nm mX12_lift) ∈ cz_T := bq41.2.2.2.2.2.2.2.2.2.2.2.2.2.2.2.2.2.2.2.2.2.1
theorem myX12_seed : cz_my mX12_seed 12 1 := ⟨rfl, bq41.2.2.2.2.2.2.2.2.2.2.2.2.2.2.2.2.2.2.2.2.2.2.2.2.2.2.1, ini12, nv12, nw12, pd4⟩
theorem inX12_seed : Cond.instanceMethod (cz_nm mX12_seed) ∈ cz_T := bq41.2.2.2.2.2.2.2.2.2.2.2.2.2.2.2.2.2.2.2.2.2.2.2.2.1
theorem seX12_seed : Cond.selects (cz_on 12) (cz_nm mX12_seed) (cz_nm mX12_seed) ∈ cz_T := bq41.2.2.2.2.2.2.2.2.2.2.2.2.2.2.2.2.2.2.2.2.2.2.2.2.2.1
theorem myX12_undo : cz_my mX12_undo 12 0 := ⟨rfl, bq42.1, ini12, nv12, nw12, pd13⟩
theorem inX12_undo : Cond.instanceMethod (cz_nm mX12_undo) ∈ cz_T := bq41.2.2.2.2.2.2.2.2.2.2.2.2.2.2.2.2.2.2.2.2.2.2.2.2.2.2.2.2.1
theorem seX12_undo : Cond.selects (cz_on 12) (cz_nm mX12_undo) (cz_nm mX12_undo) ∈ cz_T := bq41.2.2.2.2.2.2.2.2.2.2.2.2.2.2.2.2.2.2.2.2.2.2.2.2.2.2.2.2.2.1
theorem myX12_mark : cz_my mX12_mark 12 0 := ⟨rfl, bq43.2.2.2.1, ini12, nv12, nw12, pd14⟩
theorem inX12_mark : Cond.instanceMethod (cz_nm mX12_mark) ∈ cz_T := bq43.2.1
theorem seX12_mark : Cond.selects (cz_on 12) (cz_nm mX12_mark) (cz_nm mX12_mark) ∈ cz_T := bq43.2.2.1
theorem myX12_back : cz_my mX12_back 12 1 := ⟨rfl, bq43.2.2.2.2.2.2.2.1, ini12, nv12, nw12, pd4⟩
theorem inX12_back : Cond.instanceMethod (cz_nm mX12_back) ∈ cz_T := bq43.2.2.2.2.2.1
theorem seX12_back : Cond.selects (cz_on 12) (cz_nm mX12_back) (cz_nm mX12_back) ∈ cz_T := bq43.2.2.2.2.2.2.1
theorem myX12_event : cz_my mX12_event 12 2 := ⟨rfl, bq43.2.2.2.2.2.2.2.2.2.2.2.1, ini12, nv12, nw12, pd7⟩
theorem inX12_event : Cond.instanceMethod (cz_nm mX12_event) ∈ cz_T := bq43.2.2.2.2.2.2.2.2.2.1
theorem seX12_event : Cond.selects (cz_on 12) (cz_nm mX12_event) (cz_nm mX12_event) ∈ cz_T := bq43.2.2.2.2.2.2.2.2.2.2.1
theorem myX12_led : cz_my mX12_led 12 1 := ⟨rfl, bq43.2.2.2.2.2.2.2.2.2.2.2.2.2.2.2.1, ini12, nv12, nw12, pd1⟩
theorem inX12_led : Cond.instanceMethod (cz_nm mX12_led) ∈ cz_T := bq43.2.2.2.2.2.2.2.2.2.2.2.2.2.1
theorem seX12_led : Cond.selects (cz_on 12) (cz_nm mX12_led) (cz_nm mX12_led) ∈ cz_T := bq43.2.2.2.2.2.2.2.2.2.2.2.2.2.2.1
theorem myX12_size : cz_my mX12_size 12 1 := ⟨rfl, bq43.2.2.2.2.2.2.2.2.2.2.2.2.2.2.2.2.2.2.2.1, ini12, nv12, nw12, pd1⟩
theorem inX12_size : Cond.instanceMethod (cz_nm mX12_size) ∈ cz_T := bq43.2.2.2.2.2.2.2.2.2.2.2.2.2.2.2.2.2.1
theorem seX12_size : Cond.selects (cz_on 12) (cz_nm mX12_size) (cz_nm mX12_size) ∈ cz_T := bq43.2.2.2.2.2.2.2.2.2.2.2.2.2.2.2.2.2.2.1
theorem myX12_trouble : cz_my mX12_trouble 12 0 := ⟨rfl, bq43.2.2.2.2.2.2.2.2.2.2.2.2.2.2.2.2.2.2.2.2.2.2.2.1, ini12, nv12, nw12, pd14⟩
theorem inX12_trouble : Cond.instanceMethod (cz_nm mX12_trouble) ∈ cz_T := bq43.2.2.2.2.2.2.2.2.2.2.2.2.2.2.2.2.2.2.2.2.2.1
theorem seX12_trouble : Cond.selects (cz_on 12) (cz_nm mX12_trouble) (cz_nm mX12_trouble) ∈ cz_T := bq43.2.2.2.2.2.2.2.2.2.2.2.2.2.2.2.2.2.2.2.2.2.2.1
theorem myJ6_bitCount_0f7a4 : cz_my mJ6_bitCount_0f7a4 14 1 := ⟨rfl, bq23.2.2.2.2.2.1, ini14, nv14, nw14, pd1⟩
theorem inJ6_bitCount_0f7a4 : Cond.static (cz_nm mJ6_bitCount_0f7a4) ∈ cz_T := bq23.2.2.2.2.1
theorem myJ9_max_7cf53 : cz_my mJ9_max_7cf53 15 2 := ⟨rfl, bq19.2.2.2.2.2.2.2.2.2.2.2.2.2.2.2.2.2.2.2.2.2.2.2.2.1, ini15, nv15, nw15, pd7⟩
theorem inJ9_max_7cf53 : Cond.static (cz_nm mJ9_max_7cf53) ∈ cz_T := bq19.2.2.2.2.2.2.2.2.2.2.2.2.2.2.2.2.2.2.2.2.2.2.2.1
theorem myJ9_min_7cf53 : cz_my mJ9_min_7cf53 15 2 := ⟨rfl, bq25.2.2.2.2.1, ini15, nv15, nw15, pd7⟩
theorem inJ9_min_7cf53 : Cond.static (cz_nm mJ9_min_7cf53) ∈ cz_T := bq25.2.2.2.1
theorem myJ0_length_8abf5 : cz_my mJ0_length_8abf5 17 0 := ⟨rfl, bq10.2.2.2.2.2.2.2.2.2.2.2.2.2.2.2.2.2.2.1, ini17, nv17, nw17, pd14⟩
theorem inJ0_length_8abf5 : Cond.instanceMethod (cz_nm mJ0_length_8abf5) ∈ cz_T := bq10.2.2.2.2.2.2.2.2.2.2.2.2.2.2.2.2.1
theorem seJ0_length_8abf5 : Cond.selects (cz_on 17) (cz_nm mJ0_length_8abf5) (cz_nm mJ0_length_8abf5) ∈ cz_T := bq10.2.2.2.2.2.2.2.2.2.2.2.2.2.2.2.2.2.1
theorem myJ0_charAt_5068e : cz_my mJ0_charAt_5068e 17 1 := ⟨rfl, bq10.2.2.2.2.2.2.2.2.2.2.2.2.2.2.2.2.2.2.2.2.2.2.2.2.2.2.1, ini17, nv17, nw17, pd43⟩
theorem inJ0_charAt_5068e : Cond.instanceMethod (cz_nm mJ0_charAt_5068e) ∈ cz_T := bq10.2.2.2.2.2.2.2.2.2.2.2.2.2.2.2.2.2.2.2.2.2.2.2.2.1
theorem seJ0_charAt_5068e : Cond.selects (cz_on 17) (cz_nm mJ0_charAt_5068e) (cz_nm mJ0_charAt_5068e) ∈ cz_T := bq10.2.2.2.2.2.2.2.2.2.2.2.2.2.2.2.2.2.2.2.2.2.2.2.2.2.1
theorem myJ0_coder_7d493 : cz_my mJ0_coder_7d493 17 0 := ⟨rfl, bq10.2.2.2.2.2.2.2.2.2.2.2.2.2.2.2.2.2.2.2.2.2.2.1, ini17, nv17, nw17, pd44⟩
theorem inJ0_coder_7d493 : Cond.instanceMethod (cz_nm mJ0_coder_7d493) ∈ cz_T := bq10.2.2.2.2.2.2.2.2.2.2.2.2.2.2.2.2.2.2.2.2.1
theorem seJ0_coder_7d493 : Cond.selects (cz_on 17) (cz_nm mJ0_coder_7d493) (cz_nm mJ0_coder_7d493) ∈ cz_T := bq10.2.2.2.2.2.2.2.2.2.2.2.2.2.2.2.2.2.2.2.2.2.1
theorem myJ0_isLatin1_aae02 : cz_my mJ0_isLatin1_aae02 17 0 := ⟨rfl, bq11.1, ini17, nv17, nw17, pd13⟩
theorem inJ0_isLatin1_aae02 : Cond.instanceMethod (cz_nm mJ0_isLatin1_aae02) ∈ cz_T := bq10.2.2.2.2.2.2.2.2.2.2.2.2.2.2.2.2.2.2.2.2.2.2.2.2.2.2.2.2.1
theorem seJ0_isLatin1_aae02 : Cond.selects (cz_on 17) (cz_nm mJ0_isLatin1_aae02) (cz_nm mJ0_isLatin1_aae02) ∈ cz_T := bq10.2.2.2.2.2.2.2.2.2.2.2.2.2.2.2.2.2.2.2.2.2.2.2.2.2.2.2.2.2.1
theorem myJ0_checkIndex_df160 : cz_my mJ0_checkIndex_df160 17 2 := ⟨rfl, bq11.2.2.2.2.2.2.1, ini17, nv17, nw17, pd3⟩
theorem inJ0_checkIndex_df160 : Cond.static (cz_nm mJ0_checkIndex_df160) ∈ cz_T := bq11.2.2.2.2.2.1
theorem myJ1_charAt_3b067 : cz_my mJ1_charAt_3b067 18 2 := ⟨rfl, bq11.2.2.2.1, ini18, nv18, nw18, pd45⟩
theorem inJ1_charAt_3b067 : Cond.static (cz_nm mJ1_charAt_3b067) ∈ cz_T := bq11.2.2.1
theorem myJ7_fill_53178 : cz_my mJ7_fill_53178 16 2 := ⟨rfl, bq17.2.2.2.2.2.2.2.2.2.2.2.2.2.2.2.2.2.2.2.2.2.2.1, ini16, nv16, nw16, pd46⟩
theorem inJ7_fill_53178 : Cond.static (cz_nm mJ7_fill_53178) ∈ cz_T := bq17.2.2.2.2.2.2.2.2.2.2.2.2.2.2.2.2.2.2.2.2.2.1
theorem myJ3_checkIndex_8e157 : cz_my mJ3_checkIndex_8e157 19 3 := ⟨rfl, bq11.2.2.2.2.2.2.2.2.2.1, ini19, nv19, nw19, pd47⟩
theorem inJ3_checkIndex_8e157 : Cond.static (cz_nm mJ3_checkIndex_8e157) ∈ cz_T := bq11.2.2.2.2.2.2.2.2.1
/-! ===== links of calls, classes, constants ===== -/
theorem lk0_3 : Cond.methodLink (cz_on 0) 3 objectInit ∈ cz_T := bq6.2.2.2.1
theorem lc0_15 : Cond.classLink (cz_on 0) 15 (cz_on 2) ∈ cz_T := bq6.2.2.2.2.1
theorem fl0_21 : cz_fl 0 21 = some (0, 6, 1, false) := by decide +kernel
theorem lc0_24 : Cond.classLink (cz_on 0) 24 (cz_on 4) ∈ cz_T := bq6.2.2.2.2.2.1
theorem lk0_26 : (cz_on 0, 26, cz_nm mX4_init, "EclipseCheese") ∈ cz_NM := List.mem_of_getElem? (i := 0) (by decide +kernel)
theorem fl0_27 : cz_fl 0 27 = some (0, 8, 1, false) := by decide +kernel
theorem lc0_31 : Cond.classLink (cz_on 0) 31 (cz_on 9) ∈ cz_T := bq6.2.2.2.2.2.2.2.2.2.2.2.2.1
theorem lc0_37 : Cond.classLink (cz_on 0) 37 (cz_on 1) ∈ cz_T := bq6.2.2.2.2.2.2.2.2.2.2.2.2.2.1
theorem fl0_39 : cz_fl 0 39 = some (0, 12, 1, false) := by decide +kernel
theorem lk0_47 : (cz_on 0, 47, cz_nm mX2_init, "EclipseCheese") ∈ cz_NM := List.mem_of_getElem? (i := 1) (by decide +kernel)
theorem lk0_48 : (cz_on 0, 48, cz_nm mX9_init, "EclipseCheese") ∈ cz_NM := List.mem_of_getElem? (i := 2) (by decide +kernel)
theorem lk0_49 : (cz_on 0, 49, cz_nm mX1_init, "EclipseCheese") ∈ cz_NM := List.mem_of_getElem? (i := 3) (by decide +kernel)
theorem fl0_50 : cz_fl 0 50 = some (0, 0, 0, false) := by decide +kernel
theorem fl0_54 : cz_fl 0 54 = some (0, 1, 0, false) := by decide +kernel
theorem fl0_57 : cz_fl 0 57 = some (0, 3, 0, false) := by decide +kernel
theorem fl0_60 : cz_fl 0 60 = some (0, 5, 0, false) := by decide +kernel
theorem fl0_63 : cz_fl 0 63 = some (0, 7, 0, false) := by decide +kernel
theorem fl0_66 : cz_fl 0 66 = some (4, 0, 0, false) := by decide +kernel
theorem fl0_69 : cz_fl 0 69 = some (0, 9, 0, false) := by decide +kernel
theorem fl0_72 : cz_fl 0 72 = some (0, 11, 0, false) := by decide +kernel
theorem fl0_75 : cz_fl 0 75 = some (0, 13, 0, false) := by decide +kernel
theorem lk0_78 : (cz_on 0, 78, cz_nm mX10_bit, "EclipseCheese") ∈ cz_NM := List.mem_of_getElem? (i := 8) (by decide +kernel)
theorem fl0_82 : cz_fl 0 82 = some (1, 3, 0, false) := by decide +kernel
theorem lk1_1 : Cond.methodLink (cz_on 1) 1 objectInit ∈ cz_T := bq6.2.2.2.2.2.2.2.2.2.2.2.2.2.2.2.2.2.2.2.2.2.2.2.2.2.1
theorem lk2_1 : Cond.methodLink (cz_on 2) 1 objectInit ∈ cz_T := bq6.2.2.2.2.2.2.2.2.2.2.2.2.2.2.2.2.2.1
theorem lk3_3 : Cond.methodLink (cz_on 3) 3 objectInit ∈ cz_T := bq8.2.2.2.2.2.1
theorem fl3_9 : cz_fl 3 9 = some (3, 3, 1, false) := by decide +kernel
theorem fl3_15 : cz_fl 3 15 = some (3, 4, 1, false) := by decide +kernel
theorem fl3_18 : cz_fl 3 18 = some (3, 0, 0, false) := by decide +kernel
theorem fl3_22 : cz_fl 3 22 = some (3, 1, 0, false) := by decide +kernel
theorem fl3_25 : cz_fl 3 25 = some (3, 2, 0, false) := by decide +kernel
theorem lk3_28 : Cond.methodLink (cz_on 3) 28 (cz_nm mX3_drawBelow) ∈ cz_T := bq24.2.2.2.2.2.2.2.2.2.2.2.2.2.2.2.2.2.2.2.2.2.2.2.2.2.2.2.2.1
theorem lk3_32 : Cond.methodLink (cz_on 3) 32 (cz_nm mJ9_min_7cf53) ∈ cz_T := bq25.2.2.1
theorem lk3_38 : Cond.methodLink (cz_on 3) 38 (cz_nm mX3_add) ∈ cz_T := bq25.2.2.2.2.2.1
theorem ld3_42 : Cond.constant (cz_on 3) 42 (65537) ∈ cz_T := bq25.2.1
theorem lk4_3 : Cond.methodLink (cz_on 4) 3 objectInit ∈ cz_T := bq6.2.2.2.2.2.2.2.2.2.1
theorem fl4_9 : cz_fl 4 9 = some (4, 1, 1, false) := by decide +kernel
theorem fl4_15 : cz_fl 4 15 = some (4, 0, 0, false) := by decide +kernel
theorem lk5_3 : Cond.methodLink (cz_on 5) 3 objectInit ∈ cz_T := bq8.2.2.2.2.2.2.2.2.2.2.2.2.2.2.2.2.2.2.2.2.2.2.2.2.1
theorem fl5_9 : cz_fl 5 9 = some (5, 3, 1, false) := by decide +kernel
theorem fl5_15 : cz_fl 5 15 = some (5, 4, 1, false) := by decide +kernel
theorem fl5_18 : cz_fl 5 18 = some (5, 5, 1, false) := by decide +kernel
theorem fl5_21 : cz_fl 5 21 = some (5, 6, 1, false) := by decide +kernel
theorem fl5_24 : cz_fl 5 24 = some (5, 7, 1, false) := by decide +kernel
theorem fl5_27 : cz_fl 5 27 = some (5, 8, 1, false) := by decide +kernel
theorem fl5_30 : cz_fl 5 30 = some (5, 9, 1, false) := by decide +kernel
theorem fl5_33 : cz_fl 5 33 = some (5, 10, 1, false) := by decide +kernel
theorem fl5_36 : cz_fl 5 36 = some (5, 11, 1, false) := by decide +kernel
theorem fl5_39 : cz_fl 5 39 = some (5, 0, 1, false) := by decide +kernel
theorem fl5_43 : cz_fl 5 43 = some (5, 1, 1, false) := by decide +kernel
theorem fl5_47 : cz_fl 5 47 = some (5, 2, 0, false) := by decide +kernel
theorem lk5_51 : Cond.methodLink (cz_on 5) 51 (cz_nm mX5_forget) ∈ cz_T := bq17.2.2.2.2.2.2.2.2.2.2.2.2.2.2.2.2.2.1
theorem fl5_54 : cz_fl 5 54 = some (0, 7, 0, false) := by decide +kernel
theorem fl5_59 : cz_fl 5 59 = some (8, 10, 0, false) := by decide +kernel
theorem fl5_64 : cz_fl 5 64 = some (8, 11, 1, false) := by decide +kernel
theorem lk5_67 : Cond.methodLink (cz_on 5) 67 (cz_nm mX5_turnAll) ∈ cz_T := bq17.2.2.2.2.2.2.2.2.2.2.2.2.2.2.2.2.2.2.2.2.2.2.2.1
theorem lk5_71 : Cond.methodLink (cz_on 5) 71 (cz_nm mX5_judge) ∈ cz_T := bq18.2.2.2.2.2.2.2.2.2.2.2.1
theorem lk5_75 : Cond.methodLink (cz_on 5) 75 (cz_nm mJ7_fill_53178) ∈ cz_T := bq17.2.2.2.2.2.2.2.2.2.2.2.2.2.2.2.2.2.2.2.2.1
theorem fl5_81 : cz_fl 5 81 = some (0, 9, 0, false) := by decide +kernel
theorem lk5_84 : (cz_on 5, 84, cz_nm mX10_bit, "EclipseCheese") ∈ cz_NM := List.mem_of_getElem? (i := 9) (by decide +kernel)
theorem lk5_87 : Cond.methodLink (cz_on 5) 87 (cz_nm mX5_noticedHuts) ∈ cz_T := bq17.2.2.2.2.2.2.2.2.2.2.2.2.2.2.2.2.2.2.2.2.2.2.2.2.2.2.1
theorem fl5_90 : cz_fl 5 90 = some (0, 10, 1, false) := by decide +kernel
theorem fl5_94 : cz_fl 5 94 = some (9, 5, 0, false) := by decide +kernel
theorem lk5_99 : Cond.methodLink (cz_on 5) 99 (cz_nm mX5_isAwake) ∈ cz_T := bq18.2.1
theorem lk5_103 : Cond.methodLink (cz_on 5) 103 (cz_nm mX5_turnSome) ∈ cz_T := bq18.2.2.2.2.2.2.2.2.1
theorem fl5_107 : cz_fl 5 107 = some (0, 5, 0, false) := by decide +kernel
theorem fl5_110 : cz_fl 5 110 = some (9, 3, 0, false) := by decide +kernel
theorem fl5_112 : cz_fl 5 112 = some (0, 6, 1, false) := by decide +kernel
theorem fl5_115 : cz_fl 5 115 = some (8, 8, 1, false) := by decide +kernel
theorem fl5_118 : cz_fl 5 118 = some (9, 4, 0, false) := by decide +kernel
theorem lk5_121 : Cond.methodLink (cz_on 5) 121 (cz_nm mX8_crackingHuts) ∈ cz_T := bq18.2.2.2.2.2.2.2.2.2.2.2.2.2.2.1
theorem fl5_125 : cz_fl 5 125 = some (9, 1, 0, false) := by decide +kernel
theorem fl5_128 : cz_fl 5 128 = some (9, 2, 0, false) := by decide +kernel
theorem fl5_131 : cz_fl 5 131 = some (9, 0, 0, false) := by decide +kernel
theorem fl5_134 : cz_fl 5 134 = some (8, 2, 1, false) := by decide +kernel
theorem lk5_138 : Cond.methodLink (cz_on 5) 138 (cz_nm mX5_isCalled) ∈ cz_T := bq18.2.2.2.2.2.1
theorem fl5_141 : cz_fl 5 141 = some (0, 11, 0, false) := by decide +kernel
theorem fl5_144 : cz_fl 5 144 = some (0, 12, 1, false) := by decide +kernel
theorem fl5_147 : cz_fl 5 147 = some (1, 0, 0, false) := by decide +kernel
theorem fl5_152 : cz_fl 5 152 = some (1, 1, 0, false) := by decide +kernel
theorem fl5_155 : cz_fl 5 155 = some (1, 2, 0, false) := by decide +kernel
theorem fl5_158 : cz_fl 5 158 = some (0, 8, 1, false) := by decide +kernel
theorem lk5_162 : Cond.methodLink (cz_on 5) 162 (cz_nm mX4_holds) ∈ cz_T := bq18.1
theorem fl5_168 : cz_fl 5 168 = some (8, 1, 0, false) := by decide +kernel
theorem fl5_171 : cz_fl 5 171 = some (8, 9, 1, false) := by decide +kernel
theorem fl5_174 : cz_fl 5 174 = some (0, 0, 0, false) := by decide +kernel
theorem lk5_177 : Cond.methodLink (cz_on 5) 177 (cz_nm mX5_turnerOf) ∈ cz_T := bq20.2.2.2.2.2.2.2.2.2.2.2.2.2.2.2.2.2.1
theorem lk5_180 : Cond.methodLink (cz_on 5) 180 (cz_nm mX5_isTurned) ∈ cz_T := bq20.2.2.2.2.2.2.2.2.2.2.2.2.2.2.1
theorem lk5_183 : Cond.methodLink (cz_on 5) 183 (cz_nm mX5_hasJustVeins) ∈ cz_T := bq24.2.2.2.2.2.2.2.2.2.1
theorem fl5_187 : cz_fl 5 187 = some (4, 0, 0, false) := by decide +kernel
theorem fl5_190 : cz_fl 5 190 = some (4, 1, 1, false) := by decide +kernel
theorem fl5_192 : cz_fl 5 192 = some (0, 2, 1, false) := by decide +kernel
theorem lk5_195 : Cond.methodLink (cz_on 5) 195 (cz_nm mJ9_max_7cf53) ∈ cz_T := bq19.2.2.2.2.2.2.2.2.2.2.2.2.2.2.2.2.2.2.2.2.2.2.1
theorem lk5_200 : Cond.methodLink (cz_on 5) 200 (cz_nm mX0_costOf) ∈ cz_T := bq19.2.2.2.2.2.2.2.2.2.2.2.2.2.2.1
theorem lk5_203 : Cond.methodLink (cz_on 5) 203 (cz_nm mX5_price) ∈ cz_T := bq19.2.2.2.2.2.2.2.2.2.2.2.2.2.2.2.2.2.2.1
theorem lk6_3 : Cond.methodLink (cz_on 6) 3 objectInit ∈ cz_T := bq8.2.2.2.2.2.2.2.2.2.2.2.1
theorem lc6_9 : Cond.classLink (cz_on 6) 9 (cz_on 3) ∈ cz_T := bq8.2.2.2.2.2.2.2.2.2.2.2.2.1
theorem fl6_11 : cz_fl 6 11 = some (6, 1, 1, false) := by decide +kernel
theorem fl6_17 : cz_fl 6 17 = some (6, 3, 1, false) := by decide +kernel
theorem lk6_20 : (cz_on 6, 20, cz_nm mX3_init, "EclipseCheese") ∈ cz_NM := List.mem_of_getElem? (i := 5) (by decide +kernel)
theorem fl6_21 : cz_fl 6 21 = some (6, 0, 0, false) := by decide +kernel
theorem fl6_25 : cz_fl 6 25 = some (6, 2, 0, false) := by decide +kernel
theorem lk6_28 : Cond.methodLink (cz_on 6) 28 (cz_nm mX6_dropOldestAct) ∈ cz_T := bq25.2.2.2.2.2.2.2.2.2.2.2.2.2.2.2.2.2.2.2.2.1
theorem lk6_31 : Cond.methodLink (cz_on 6) 31 (cz_nm mX3_become) ∈ cz_T := bq25.2.2.2.2.2.2.2.2.2.2.2.2.2.2.2.2.2.2.2.2.2.2.2.1
theorem lk7_3 : Cond.methodLink (cz_on 7) 3 objectInit ∈ cz_T := bq7.2.1
theorem fl7_9 : cz_fl 7 9 = some (7, 13, 1, false) := by decide +kernel
theorem fl7_15 : cz_fl 7 15 = some (7, 14, 1, false) := by decide +kernel
theorem fl7_18 : cz_fl 7 18 = some (7, 0, 1, false) := by decide +kernel
theorem fl7_22 : cz_fl 7 22 = some (7, 10, 1, false) := by decide +kernel
theorem lk7_26 : Cond.methodLink (cz_on 7) 26 (cz_nm mX0_clear) ∈ cz_T := bq9.2.2.2.2.2.2.2.2.2.2.2.2.2.2.2.2.2.2.1
theorem fl7_31 : cz_fl 7 31 = some (7, 11, 3, false) := by decide +kernel
theorem fl7_35 : cz_fl 7 35 = some (7, 12, 3, false) := by decide +kernel
theorem fl7_38 : cz_fl 7 38 = some (7, 15, 0, false) := by decide +kernel
theorem fl7_42 : cz_fl 7 42 = some (7, 16, 0, false) := by decide +kernel
theorem fl7_45 : cz_fl 7 45 = some (7, 1, 0, false) := by decide +kernel
theorem fl7_48 : cz_fl 7 48 = some (7, 2, 0, false) := by decide +kernel
theorem lk7_51 : Cond.methodLink (cz_on 7) 51 (cz_nm mX7_step) ∈ cz_T := bq9.2.2.2.2.2.2.2.2.2.2.2.2.2.2.2.2.2.2.2.2.2.2.1
theorem lk7_54 : Cond.methodLink (cz_on 7) 54 (cz_nm mX7_readLine) ∈ cz_T := bq10.2.2.2.1
theorem fl7_58 : cz_fl 7 58 = some (7, 3, 0, false) := by decide +kernel
theorem fl7_61 : cz_fl 7 61 = some (0, 5, 0, false) := by decide +kernel
theorem lk7_64 : Cond.methodLink (cz_on 7) 64 (cz_nm mX7_fail) ∈ cz_T := bq11.2.2.2.2.2.2.2.2.2.2.1
theorem fl7_68 : cz_fl 7 68 = some (7, 4, 0, false) := by decide +kernel
theorem lk7_71 : Cond.methodLink (cz_on 7) 71 (cz_nm mX7_stepWord) ∈ cz_T := bq9.2.2.2.2.2.2.2.2.2.2.2.2.2.2.2.2.2.2.2.2.2.2.2.2.2.1
theorem lk7_75 : Cond.methodLink (cz_on 7) 75 (cz_nm mX7_stepWhole) ∈ cz_T := bq10.1
theorem fl7_78 : cz_fl 7 78 = some (7, 5, 2, false) := by decide +kernel
theorem ld7_82 : Cond.constantLong (cz_on 7) 82 (32) ∈ cz_T := bq9.2.2.2.2.2.2.2.2.2.2.2.2.2.2.2.2.2.2.2.2.2.2.2.2.2.2.2.2.1
theorem ld7_84 : Cond.constantLong (cz_on 7) 84 (97) ∈ cz_T := bq9.2.2.2.2.2.2.2.2.2.2.2.2.2.2.2.2.2.2.2.2.2.2.2.2.2.2.2.2.2.1
theorem fl7_86 : cz_fl 7 86 = some (7, 6, 0, false) := by decide +kernel
theorem lk7_89 : Cond.methodLink (cz_on 7) 89 (cz_nm mJ0_length_8abf5) ∈ cz_T := bq10.2.2.2.2.2.2.2.2.2.2.2.2.2.2.2.1
theorem lk7_93 : Cond.methodLink (cz_on 7) 93 (cz_nm mJ0_charAt_5068e) ∈ cz_T := bq10.2.2.2.2.2.2.2.2.2.2.2.2.2.2.2.2.2.2.2.2.2.2.2.1
theorem lk7_97 : Cond.methodLink (cz_on 7) 97 (cz_nm mX7_packed) ∈ cz_T := bq10.2.2.2.2.2.2.2.2.2.2.2.2.1
theorem lk7_101 : Cond.methodLink (cz_on 7) 101 (cz_nm mX7_seesWord) ∈ cz_T := bq11.2.2.2.2.2.2.2.2.2.2.2.2.2.2.2.2.2.2.2.2.2.2.2.2.2.1
theorem lk7_105 : Cond.methodLink (cz_on 7) 105 (cz_nm mX7_seesWhole) ∈ cz_T := bq12.2.1
theorem fl7_109 : cz_fl 7 109 = some (7, 7, 0, false) := by decide +kernel
theorem fl7_112 : cz_fl 7 112 = some (0, 1, 0, false) := by decide +kernel
theorem lk7_115 : Cond.methodLink (cz_on 7) 115 (cz_nm mX7_takeWhole) ∈ cz_T := bq11.2.2.2.2.2.2.2.2.2.2.2.2.2.2.2.2.2.2.2.2.2.2.2.2.2.2.2.2.1
theorem fl7_118 : cz_fl 7 118 = some (0, 0, 0, false) := by decide +kernel
theorem fl7_121 : cz_fl 7 121 = some (7, 8, 0, false) := by decide +kernel
theorem ld7_124 : (cz_on 7, 124, "to", (25 : UInt32).toNat) ∈ cz_SR := List.mem_of_getElem? (i := 20) (by decide +kernel)
theorem lk7_126 : Cond.methodLink (cz_on 7) 126 (cz_nm mX7_takeWord) ∈ cz_T := bq11.2.2.2.2.2.2.2.2.2.2.2.2.2.2.2.2.2.2.2.2.2.2.1
theorem fl7_129 : cz_fl 7 129 = some (7, 9, 0, false) := by decide +kernel
theorem ld7_131 : (cz_on 7, 131, "cloud", (7 : UInt32).toNat) ∈ cz_SR := List.mem_of_getElem? (i := 0) (by decide +kernel)
theorem ld7_133 : (cz_on 7, 133, "eclipse", (11 : UInt32).toNat) ∈ cz_SR := List.mem_of_getElem? (i := 1) (by decide +kernel)
theorem ld7_135 : (cz_on 7, 135, "lamp", (17 : UInt32).toNat) ∈ cz_SR := List.mem_of_getElem? (i := 2) (by decide +kernel)
theorem ld7_137 : (cz_on 7, 137, "shutter", (22 : UInt32).toNat) ∈ cz_SR := List.mem_of_getElem? (i := 3) (by decide +kernel)
theorem ld7_139 : (cz_on 7, 139, "bolt", (4 : UInt32).toNat) ∈ cz_SR := List.mem_of_getElem? (i := 4) (by decide +kernel)
theorem ld7_141 : (cz_on 7, 141, "cheese", (6 : UInt32).toNat) ∈ cz_SR := List.mem_of_getElem? (i := 5) (by decide +kernel)
theorem ld7_143 : (cz_on 7, 143, "almanac", (0 : UInt32).toNat) ∈ cz_SR := List.mem_of_getElem? (i := 6) (by decide +kernel)
theorem ld7_145 : (cz_on 7, 145, "turner", (26 : UInt32).toNat) ∈ cz_SR := List.mem_of_getElem? (i := 7) (by decide +kernel)
theorem ld7_147 : (cz_on 7, 147, "call", (5 : UInt32).toNat) ∈ cz_SR := List.mem_of_getElem? (i := 8) (by decide +kernel)
theorem ld7_149 : (cz_on 7, 149, "slice", (23 : UInt32).toNat) ∈ cz_SR := List.mem_of_getElem? (i := 9) (by decide +kernel)
theorem ld7_151 : (cz_on 7, 151, "alp", (1 : UInt32).toNat) ∈ cz_SR := List.mem_of_getElem? (i := 10) (by decide +kernel)
theorem lk7_152 : Cond.methodLink (cz_on 7) 152 (cz_nm mX7_lineWord) ∈ cz_T := bq10.2.2.2.2.2.2.2.2.2.1
theorem fl7_156 : cz_fl 7 156 = some (0, 9, 0, false) := by decide +kernel
theorem fl7_159 : cz_fl 7 159 = some (0, 11, 0, false) := by decide +kernel
theorem fl7_162 : cz_fl 7 162 = some (0, 13, 0, false) := by decide +kernel
theorem fl7_165 : cz_fl 7 165 = some (0, 3, 0, false) := by decide +kernel
theorem lk7_168 : Cond.methodLink (cz_on 7) 168 (cz_nm mX7_sortOfWord) ∈ cz_T := bq10.2.2.2.2.2.2.1
theorem lk7_171 : Cond.methodLink (cz_on 7) 171 (cz_nm mX7_isToldAgain) ∈ cz_T := bq11.2.2.2.2.2.2.2.2.2.2.2.2.2.1
theorem lk7_174 : Cond.methodLink (cz_on 7) 174 (cz_nm mX7_isFull) ∈ cz_T := bq11.2.2.2.2.2.2.2.2.2.2.2.2.2.2.2.2.1
theorem lk7_177 : Cond.methodLink (cz_on 7) 177 (cz_nm mX7_readAlp) ∈ cz_T := bq11.2.2.2.2.2.2.2.2.2.2.2.2.2.2.2.2.2.2.2.1
theorem lk7_180 : Cond.methodLink (cz_on 7) 180 (cz_nm mX7_readCheese) ∈ cz_T := bq12.2.2.2.2.2.2.2.1
theorem fl7_183 : cz_fl 7 183 = some (0, 8, 1, false) := by decide +kernel
theorem lk7_186 : Cond.methodLink (cz_on 7) 186 (cz_nm mX7_readMinutes) ∈ cz_T := bq12.2.2.2.2.2.2.2.2.2.2.2.2.2.2.2.2.2.2.2.2.2.2.2.2.2.1
theorem lk7_190 : Cond.methodLink (cz_on 7) 190 (cz_nm mX7_readTurner) ∈ cz_T := bq12.2.2.2.2.2.2.2.2.2.2.2.2.2.2.2.2.2.2.2.2.2.2.2.2.2.2.2.2.1
theorem lk7_193 : Cond.methodLink (cz_on 7) 193 (cz_nm mX7_readCall) ∈ cz_T := bq13.2.2.2.2.2.2.2.2.2.2.2.2.1
theorem fl7_196 : cz_fl 7 196 = some (0, 14, 1, false) := by decide +kernel
theorem lk7_200 : Cond.methodLink (cz_on 7) 200 (cz_nm mX7_readEvent) ∈ cz_T := bq13.2.2.2.2.2.2.2.2.2.2.2.2.2.2.2.1
theorem ld7_203 : (cz_on 7, 203, "minutes", (18 : UInt32).toNat) ∈ cz_SR := List.mem_of_getElem? (i := 11) (by decide +kernel)
theorem ld7_204 : (cz_on 7, 204, "huts", (16 : UInt32).toNat) ∈ cz_SR := List.mem_of_getElem? (i := 12) (by decide +kernel)
theorem ld7_205 : (cz_on 7, 205, "prices", (20 : UInt32).toNat) ∈ cz_SR := List.mem_of_getElem? (i := 13) (by decide +kernel)
theorem fl7_207 : cz_fl 7 207 = some (0, 2, 1, false) := by decide +kernel
theorem lk7_210 : Cond.methodLink (cz_on 7) 210 (cz_nm mX7_takeComma) ∈ cz_T := bq12.2.2.2.2.1
theorem fl7_213 : cz_fl 7 213 = some (0, 4, 1, false) := by decide +kernel
theorem fl7_217 : cz_fl 7 217 = some (2, 0, 0, false) := by decide +kernel
theorem fl7_220 : cz_fl 7 220 = some (2, 1, 0, false) := by decide +kernel
theorem lk7_223 : Cond.methodLink (cz_on 7) 223 (cz_nm mX7_takeHut) ∈ cz_T := bq12.2.2.2.2.2.2.2.2.2.2.2.2.2.2.2.2.2.2.2.2.2.2.1
theorem lk7_226 : Cond.methodLink (cz_on 7) 226 (cz_nm mX7_takeSpan) ∈ cz_T := bq13.2.2.2.2.1
theorem fl7_229 : cz_fl 7 229 = some (2, 2, 0, false) := by decide +kernel
theorem fl7_230 : cz_fl 7 230 = some (2, 3, 0, false) := by decide +kernel
theorem lk7_231 : Cond.methodLink (cz_on 7) 231 (cz_nm mX7_seesNewName) ∈ cz_T := bq12.2.2.2.2.2.2.2.2.2.2.1
theorem ld7_234 : (cz_on 7, 234, "hut", (15 : UInt32).toNat) ∈ cz_SR := List.mem_of_getElem? (i := 15) (by decide +kernel)
theorem fl7_235 : cz_fl 7 235 = some (0, 6, 1, false) := by decide +kernel
theorem ld7_238 : (cz_on 7, 238, "down", (10 : UInt32).toNat) ∈ cz_SR := List.mem_of_getElem? (i := 14) (by decide +kernel)
theorem fl7_240 : cz_fl 7 240 = some (0, 7, 0, false) := by decide +kernel
theorem fl7_243 : cz_fl 7 243 = some (0, 10, 1, false) := by decide +kernel
theorem lk7_247 : Cond.methodLink (cz_on 7) 247 (cz_nm mX7_turnerKind) ∈ cz_T := bq13.2.1
theorem fl7_250 : cz_fl 7 250 = some (9, 0, 0, false) := by decide +kernel
theorem ld7_253 : (cz_on 7, 253, "from", (13 : UInt32).toNat) ∈ cz_SR := List.mem_of_getElem? (i := 19) (by decide +kernel)
theorem fl7_254 : cz_fl 7 254 = some (9, 1, 0, false) := by decide +kernel
theorem fl7_255 : cz_fl 7 255 = some (9, 2, 0, false) := by decide +kernel
theorem ld7_256 : (cz_on 7, 256, "hands", (14 : UInt32).toNat) ∈ cz_SR := List.mem_of_getElem? (i := 21) (by decide +kernel)
theorem fl7_258 : cz_fl 7 258 = some (9, 3, 0, false) := by decide +kernel
theorem ld7_260 : (cz_on 7, 260, "takes", (24 : UInt32).toNat) ∈ cz_SR := List.mem_of_getElem? (i := 22) (by decide +kernel)
theorem fl7_262 : cz_fl 7 262 = some (9, 4, 0, false) := by decide +kernel
theorem lk7_264 : Cond.methodLink (cz_on 7) 264 (cz_nm mX7_readHuts) ∈ cz_T := bq13.2.2.2.2.2.2.2.1
theorem ld7_268 : (cz_on 7, 268, "sees", (21 : UInt32).toNat) ∈ cz_SR := List.mem_of_getElem? (i := 16) (by decide +kernel)
theorem ld7_270 : (cz_on 7, 270, "blind", (3 : UInt32).toNat) ∈ cz_SR := List.mem_of_getElem? (i := 17) (by decide +kernel)
theorem ld7_272 : (cz_on 7, 272, "deaf", (9 : UInt32).toNat) ∈ cz_SR := List.mem_of_getElem? (i := 18) (by decide +kernel)
theorem fl7_274 : cz_fl 7 274 = some (9, 5, 0, false) := by decide +kernel
theorem lk7_275 : (cz_on 7, 275, cz_nm mX10_bit, "EclipseCheese") ∈ cz_NM := List.mem_of_getElem? (i := 7) (by decide +kernel)
theorem lk7_279 : Cond.methodLink (cz_on 7) 279 (cz_nm mX7_seesName) ∈ cz_T := bq12.2.2.2.2.2.2.2.2.2.2.2.2.2.1
theorem lk7_282 : Cond.methodLink (cz_on 7) 282 (cz_nm mX7_namedTurner) ∈ cz_T := bq12.2.2.2.2.2.2.2.2.2.2.2.2.2.2.2.2.2.2.2.1
theorem fl7_285 : cz_fl 7 285 = some (0, 12, 1, false) := by decide +kernel
theorem fl7_289 : cz_fl 7 289 = some (1, 0, 0, false) := by decide +kernel
theorem ld7_293 : (cz_on 7, 293, "at", (2 : UInt32).toNat) ∈ cz_SR := List.mem_of_getElem? (i := 23) (by decide +kernel)
theorem fl7_295 : cz_fl 7 295 = some (1, 1, 0, false) := by decide +kernel
theorem ld7_297 : (cz_on 7, 297, "for", (12 : UInt32).toNat) ∈ cz_SR := List.mem_of_getElem? (i := 24) (by decide +kernel)
theorem fl7_299 : cz_fl 7 299 = some (1, 2, 0, false) := by decide +kernel
theorem ld7_302 : (cz_on 7, 302, "costs", (8 : UInt32).toNat) ∈ cz_SR := List.mem_of_getElem? (i := 25) (by decide +kernel)
theorem fl7_304 : cz_fl 7 304 = some (1, 3, 0, false) := by decide +kernel
theorem fl7_306 : cz_fl 7 306 = some (4, 0, 0, false) := by decide +kernel
theorem fl7_311 : cz_fl 7 311 = some (4, 1, 1, false) := by decide +kernel
theorem lk7_313 : Cond.methodLink (cz_on 7) 313 (cz_nm mX7_isToldCheese) ∈ cz_T := bq12.2.2.2.2.2.2.2.2.2.2.2.2.2.2.2.2.1
theorem lk8_3 : Cond.methodLink (cz_on 8) 3 objectInit ∈ cz_T := bq8.2.2.2.2.2.2.2.2.2.2.2.2.2.2.2.2.2.1
theorem fl8_9 : cz_fl 8 9 = some (8, 2, 1, false) := by decide +kernel
theorem fl8_15 : cz_fl 8 15 = some (8, 3, 1, false) := by decide +kernel
theorem fl8_18 : cz_fl 8 18 = some (8, 4, 1, false) := by decide +kernel
theorem fl8_21 : cz_fl 8 21 = some (8, 5, 1, false) := by decide +kernel
theorem fl8_25 : cz_fl 8 25 = some (8, 6, 1, false) := by decide +kernel
theorem fl8_28 : cz_fl 8 28 = some (8, 7, 1, false) := by decide +kernel
theorem fl8_31 : cz_fl 8 31 = some (8, 8, 1, false) := by decide +kernel
theorem fl8_34 : cz_fl 8 34 = some (8, 9, 1, false) := by decide +kernel
theorem fl8_37 : cz_fl 8 37 = some (8, 11, 1, false) := by decide +kernel
theorem fl8_40 : cz_fl 8 40 = some (0, 0, 0, false) := by decide +kernel
theorem fl8_46 : cz_fl 8 46 = some (8, 0, 0, false) := by decide +kernel
theorem fl8_47 : cz_fl 8 47 = some (0, 1, 0, false) := by decide +kernel
theorem fl8_50 : cz_fl 8 50 = some (8, 1, 0, false) := by decide +kernel
theorem lk8_53 : Cond.methodLink (cz_on 8) 53 (cz_nm mX8_wipe) ∈ cz_T := bq15.2.2.2.2.2.2.2.2.1
theorem fl8_56 : cz_fl 8 56 = some (0, 3, 0, false) := by decide +kernel
theorem fl8_59 : cz_fl 8 59 = some (0, 4, 1, false) := by decide +kernel
theorem lk8_63 : Cond.methodLink (cz_on 8) 63 (cz_nm mX8_layEvent) ∈ cz_T := bq15.2.2.2.2.2.2.2.2.2.2.2.1
theorem fl8_67 : cz_fl 8 67 = some (3, 2, 0, false) := by decide +kernel
theorem fl8_72 : cz_fl 8 72 = some (3, 3, 1, false) := by decide +kernel
theorem fl8_75 : cz_fl 8 75 = some (3, 4, 1, false) := by decide +kernel
theorem lk8_78 : Cond.methodLink (cz_on 8) 78 (cz_nm mX8_layCloud) ∈ cz_T := bq15.2.2.2.2.2.2.2.2.2.2.2.2.2.2.1
theorem lk8_82 : Cond.methodLink (cz_on 8) 82 (cz_nm mX8_findLight) ∈ cz_T := bq15.2.2.2.2.2.2.2.2.2.2.2.2.2.2.2.2.2.1
theorem fl8_85 : cz_fl 8 85 = some (0, 8, 1, false) := by decide +kernel
theorem lk8_89 : Cond.methodLink (cz_on 8) 89 (cz_nm mX8_findStirs) ∈ cz_T := bq15.2.2.2.2.2.2.2.2.2.2.2.2.2.2.2.2.2.2.2.2.2.2.2.2.1
theorem fl8_93 : cz_fl 8 93 = some (2, 2, 0, false) := by decide +kernel
theorem fl8_97 : cz_fl 8 97 = some (2, 3, 0, false) := by decide +kernel
theorem fl8_99 : cz_fl 8 99 = some (2, 0, 0, false) := by decide +kernel
theorem fl8_102 : cz_fl 8 102 = some (2, 1, 0, false) := by decide +kernel
theorem lk8_105 : Cond.methodLink (cz_on 8) 105 (cz_nm mX8_isBright) ∈ cz_T := bq15.2.2.2.2.2.2.2.2.2.2.2.2.2.2.2.2.2.2.2.2.1
theorem fl8_109 : cz_fl 8 109 = some (8, 10, 0, false) := by decide +kernel
theorem lk8_112 : Cond.methodLink (cz_on 8) 112 (cz_nm mX4_holds) ∈ cz_T := bq15.2.2.2.2.2.2.2.2.2.2.2.2.2.2.2.2.2.2.2.2.2.2.2.2.2.2.2.1
theorem lk9_1 : Cond.methodLink (cz_on 9) 1 objectInit ∈ cz_T := bq6.2.2.2.2.2.2.2.2.2.2.2.2.2.2.2.2.2.2.2.2.2.1
theorem lk10_1 : Cond.methodLink (cz_on 10) 1 objectInit ∈ cz_T := bq5.2.2.2.2.2.2.2.2.2.2.2.2.2.2.2.2.2.2.2.2.2.2.2.2.2.1
theorem fl10_9 : cz_fl 10 9 = some (10, 0, 1, false) := by decide +kernel
theorem lc10_13 : Cond.classLink (cz_on 10) 13 (cz_on 0) ∈ cz_T := bq5.2.2.2.2.2.2.2.2.2.2.2.2.2.2.2.2.2.2.2.2.2.2.2.2.2.2.2.2.1
theorem lk10_15 : Cond.methodLink (cz_on 10) 15 (cz_nm mX0_init) ∈ cz_T := bq6.1
theorem fl10_16 : cz_fl 10 16 = some (10, 2, 1, false) := by decide +kernel
theorem fl10_20 : cz_fl 10 20 = some (10, 3, 1, false) := by decide +kernel
theorem lc10_23 : Cond.classLink (cz_on 10) 23 (cz_on 7) ∈ cz_T := bq6.2.2.2.2.2.2.2.2.2.2.2.2.2.2.2.2.2.2.2.2.2.2.2.2.2.2.1
theorem lk10_25 : Cond.methodLink (cz_on 10) 25 (cz_nm mX7_init) ∈ cz_T := bq6.2.2.2.2.2.2.2.2.2.2.2.2.2.2.2.2.2.2.2.2.2.2.2.2.2.2.2.2.1
theorem fl10_28 : cz_fl 10 28 = some (10, 4, 1, false) := by decide +kernel
theorem lc10_32 : Cond.classLink (cz_on 10) 32 (cz_on 3) ∈ cz_T := bq8.2.1
theorem lk10_34 : (cz_on 10, 34, cz_nm mX3_init, "EclipseCheese") ∈ cz_NM := List.mem_of_getElem? (i := 4) (by decide +kernel)
theorem fl10_35 : cz_fl 10 35 = some (10, 6, 1, false) := by decide +kernel
theorem lc10_39 : Cond.classLink (cz_on 10) 39 (cz_on 6) ∈ cz_T := bq8.2.2.2.2.2.2.1
theorem lk10_41 : Cond.methodLink (cz_on 10) 41 (cz_nm mX6_init) ∈ cz_T := bq8.2.2.2.2.2.2.2.2.1
theorem fl10_42 : cz_fl 10 42 = some (10, 7, 1, false) := by decide +kernel
theorem lc10_46 : Cond.classLink (cz_on 10) 46 (cz_on 8) ∈ cz_T := bq8.2.2.2.2.2.2.2.2.2.2.2.2.2.1
theorem lk10_48 : (cz_on 10, 48, cz_nm mX8_init, "EclipseCheese") ∈ cz_NM := List.mem_of_getElem? (i := 6) (by decide +kernel)
theorem fl10_49 : cz_fl 10 49 = some (10, 8, 1, false) := by decide +kernel
theorem lc10_53 : Cond.classLink (cz_on 10) 53 (cz_on 5) ∈ cz_T := bq8.2.2.2.2.2.2.2.2.2.2.2.2.2.2.2.2.2.2.2.1
theorem lk10_55 : Cond.methodLink (cz_on 10) 55 (cz_nm mX5_init) ∈ cz_T := bq8.2.2.2.2.2.2.2.2.2.2.2.2.2.2.2.2.2.2.2.2.2.1
theorem fl10_58 : cz_fl 10 58 = some (10, 10, 1, false) := by decide +kernel
theorem fl10_62 : cz_fl 10 62 = some (10, 12, 1, false) := by decide +kernel
theorem fl10_65 : cz_fl 10 65 = some (10, 13, 1, false) := by decide +kernel
theorem fl10_68 : cz_fl 10 68 = some (10, 14, 1, false) := by decide +kernel
theorem fl10_71 : cz_fl 10 71 = some (10, 1, 0, false) := by decide +kernel
theorem lk10_75 : Cond.methodLink (cz_on 10) 75 (cz_nm mX10_putBytes) ∈ cz_T := bq9.2.2.2.2.1
theorem lk10_79 : Cond.methodLink (cz_on 10) 79 (cz_nm mX10_refused) ∈ cz_T := bq9.2.2.2.2.2.2.2.2.2.2.2.1
theorem lk10_83 : Cond.methodLink (cz_on 10) 83 (cz_nm mX7_readAll) ∈ cz_T := bq9.2.2.2.2.2.2.2.2.2.2.2.2.2.2.1
theorem fl10_87 : cz_fl 10 87 = some (7, 15, 0, false) := by decide +kernel
theorem fl10_90 : cz_fl 10 90 = some (10, 15, 0, false) := by decide +kernel
theorem fl10_91 : cz_fl 10 91 = some (7, 16, 0, false) := by decide +kernel
theorem fl10_94 : cz_fl 10 94 = some (10, 16, 0, false) := by decide +kernel
theorem fl10_95 : cz_fl 10 95 = some (10, 5, 3, false) := by decide +kernel
theorem lk10_99 : Cond.methodLink (cz_on 10) 99 (cz_nm mX3_clear) ∈ cz_T := bq14.2.2.1
theorem lk10_102 : Cond.methodLink (cz_on 10) 102 (cz_nm mX6_clear) ∈ cz_T := bq14.2.2.2.2.2.2.1
theorem lk10_103 : Cond.methodLink (cz_on 10) 103 (cz_nm mX10_cloudsMoved) ∈ cz_T := bq14.2.2.2.2.2.2.2.2.2.2.1
theorem fl10_106 : cz_fl 10 106 = some (0, 5, 0, false) := by decide +kernel
theorem lk10_109 : Cond.methodLink (cz_on 10) 109 (cz_nm mX10_answered) ∈ cz_T := bq14.2.2.2.2.2.2.2.2.2.2.2.2.2.1
theorem fl10_112 : cz_fl 10 112 = some (10, 17, 0, false) := by decide +kernel
theorem lk10_115 : Cond.methodLink (cz_on 10) 115 (cz_nm mX10_isMinute) ∈ cz_T := bq14.2.2.2.2.2.2.2.2.2.2.2.2.2.2.2.2.2.2.2.2.2.2.2.2.2.2.2.2.1
theorem lk10_119 : Cond.methodLink (cz_on 10) 119 (cz_nm mX10_presentSky) ∈ cz_T := bq15.2.1
theorem lk10_123 : Cond.methodLink (cz_on 10) 123 (cz_nm mX8_isBright) ∈ cz_T := bq16.2.1
theorem lk10_126 : Cond.methodLink (cz_on 10) 126 (cz_nm mX10_isHut) ∈ cz_T := bq16.2.2.2.2.2.2.1
theorem fl10_129 : cz_fl 10 129 = some (8, 7, 1, false) := by decide +kernel
theorem fl10_133 : cz_fl 10 133 = some (8, 6, 1, false) := by decide +kernel
theorem lk10_136 : Cond.methodLink (cz_on 10) 136 (cz_nm mX10_bit) ∈ cz_T := bq16.2.2.2.2.2.2.2.2.2.1
theorem fl10_140 : cz_fl 10 140 = some (8, 9, 1, false) := by decide +kernel
theorem fl10_143 : cz_fl 10 143 = some (8, 8, 1, false) := by decide +kernel
theorem fl10_146 : cz_fl 10 146 = some (0, 0, 0, false) := by decide +kernel
theorem lk10_149 : Cond.methodLink (cz_on 10) 149 (cz_nm mX0_cheesesIn) ∈ cz_T := bq16.2.2.2.2.2.2.2.2.2.2.2.2.2.2.2.2.2.2.2.2.2.2.1
theorem lk10_152 : Cond.methodLink (cz_on 10) 152 (cz_nm mX10_isTurner) ∈ cz_T := bq17.2.2.2.2.1
theorem lk10_155 : Cond.methodLink (cz_on 10) 155 (cz_nm mX10_presentNight) ∈ cz_T := bq17.2.2.2.2.2.2.2.1
theorem lk10_159 : Cond.methodLink (cz_on 10) 159 (cz_nm mX5_isAwake) ∈ cz_T := bq18.2.2.2.2.2.2.2.2.2.2.2.2.2.2.2.2.2.2.1
theorem lk10_163 : Cond.methodLink (cz_on 10) 163 (cz_nm mX5_noticedHuts) ∈ cz_T := bq18.2.2.2.2.2.2.2.2.2.2.2.2.2.2.2.2.2.2.2.2.2.2.2.1
theorem fl10_166 : cz_fl 10 166 = some (5, 8, 1, false) := by decide +kernel
theorem fl10_169 : cz_fl 10 169 = some (5, 9, 1, false) := by decide +kernel
theorem fl10_172 : cz_fl 10 172 = some (5, 10, 1, false) := by decide +kernel
theorem lk10_175 : Cond.methodLink (cz_on 10) 175 (cz_nm mX5_minutesAwake) ∈ cz_T := bq18.2.2.2.2.2.2.2.2.2.2.2.2.2.2.2.2.2.2.2.2.2.2.2.2.2.2.2.2.1
theorem lk10_178 : Cond.methodLink (cz_on 10) 178 (cz_nm mX10_refusedTotal) ∈ cz_T := bq19.2.2.2.2.2.2.1
theorem fl10_181 : cz_fl 10 181 = some (3, 0, 0, false) := by decide +kernel
theorem lk10_184 : Cond.methodLink (cz_on 10) 184 (cz_nm mX10_allTurners) ∈ cz_T := bq17.2.2.2.2.2.2.2.2.2.2.1
theorem lk10_188 : Cond.methodLink (cz_on 10) 188 (cz_nm mX5_play) ∈ cz_T := bq17.2.2.2.2.2.2.2.2.2.2.2.2.2.1
theorem lk10_192 : Cond.methodLink (cz_on 10) 192 (cz_nm mX5_sum) ∈ cz_T := bq19.2.2.2.2.2.2.2.2.2.2.1
theorem lk10_195 : Cond.methodLink (cz_on 10) 195 (cz_nm mX10_isCheese) ∈ cz_T := bq19.2.2.2.2.2.2.2.2.2.2.2.2.2.2.2.2.2.2.2.2.2.2.2.2.2.2.2.2.2.1
theorem lk10_198 : Cond.methodLink (cz_on 10) 198 (cz_nm mX5_turnerOf) ∈ cz_T := bq20.2.2.1
theorem lk10_201 : Cond.methodLink (cz_on 10) 201 (cz_nm mX5_liesUp) ∈ cz_T := bq20.2.2.2.2.2.2.2.2.2.2.1
theorem fl10_204 : cz_fl 10 204 = some (0, 6, 1, false) := by decide +kernel
theorem fl10_207 : cz_fl 10 207 = some (5, 4, 1, false) := by decide +kernel
theorem fl10_210 : cz_fl 10 210 = some (5, 5, 1, false) := by decide +kernel
theorem fl10_213 : cz_fl 10 213 = some (5, 6, 1, false) := by decide +kernel
theorem fl10_216 : cz_fl 10 216 = some (5, 7, 1, false) := by decide +kernel
theorem lk10_219 : Cond.methodLink (cz_on 10) 219 (cz_nm mX5_price) ∈ cz_T := bq20.2.2.2.2.2.2.2.2.2.2.2.2.2.2.2.2.2.2.2.2.2.2.1
theorem lk10_222 : Cond.methodLink (cz_on 10) 222 (cz_nm mX10_veinMinute) ∈ cz_T := bq20.2.2.2.2.2.2.2.2.2.2.2.2.2.2.2.2.2.2.2.2.2.2.2.2.2.2.2.1
theorem lk10_225 : Cond.methodLink (cz_on 10) 225 (cz_nm mX10_eventCount) ∈ cz_T := bq22.2.2.2.1
theorem lk10_228 : Cond.methodLink (cz_on 10) 228 (cz_nm mX10_eventFrom) ∈ cz_T := bq22.2.2.2.2.2.2.1
theorem lk10_231 : Cond.methodLink (cz_on 10) 231 (cz_nm mX10_eventTo) ∈ cz_T := bq22.2.2.2.2.2.2.2.2.2.1
theorem lk10_234 : Cond.methodLink (cz_on 10) 234 (cz_nm mX10_isEvent) ∈ cz_T := bq22.2.2.2.2.2.2.2.2.2.2.2.2.2.2.2.2.2.2.2.2.1
theorem lk10_237 : Cond.methodLink (cz_on 10) 237 (cz_nm mX8_build) ∈ cz_T := bq15.2.2.2.2.1
theorem lk10_241 : Cond.methodLink (cz_on 10) 241 (cz_nm mX10_bestCalls) ∈ cz_T := bq22.2.2.2.2.2.2.2.2.2.2.2.2.2.2.2.2.2.2.2.2.2.2.2.2.2.2.2.1
theorem lk10_244 : Cond.methodLink (cz_on 10) 244 (cz_nm mX10_fewestTurners) ∈ cz_T := bq23.2.2.2.2.2.2.2.2.2.2.2.2.2.2.2.2.2.1
theorem lk10_247 : Cond.methodLink (cz_on 10) 247 (cz_nm mJ6_bitCount_0f7a4) ∈ cz_T := bq23.2.2.2.1
theorem lk10_252 : Cond.methodLink (cz_on 10) 252 (cz_nm mX10_isSlice) ∈ cz_T := bq24.2.2.1
theorem fl10_255 : cz_fl 10 255 = some (0, 14, 1, false) := by decide +kernel
theorem lk10_259 : Cond.methodLink (cz_on 10) 259 (cz_nm mX5_cheesesWithVeins) ∈ cz_T := bq24.2.2.2.2.2.1
theorem lk10_263 : Cond.methodLink (cz_on 10) 263 (cz_nm mX10_allCalls) ∈ cz_T := bq23.1
theorem lk10_266 : Cond.methodLink (cz_on 10) 266 (cz_nm mX10_isSeed) ∈ cz_T := bq24.2.2.2.2.2.2.2.2.2.2.2.2.2.2.2.2.2.2.2.2.1
theorem fl10_269 : cz_fl 10 269 = some (3, 1, 0, false) := by decide +kernel
theorem fl10_272 : cz_fl 10 272 = some (3, 2, 0, false) := by decide +kernel
theorem lk10_275 : Cond.methodLink (cz_on 10) 275 (cz_nm mX3_addDrawn) ∈ cz_T := bq24.2.2.2.2.2.2.2.2.2.2.2.2.2.2.2.2.2.2.2.2.2.2.2.2.1
theorem fl10_278 : cz_fl 10 278 = some (0, 11, 0, false) := by decide +kernel
theorem lk10_281 : Cond.methodLink (cz_on 10) 281 (cz_nm mX10_refusedAct) ∈ cz_T := bq25.2.2.2.2.2.2.2.2.2.2.2.2.2.1
theorem lk10_284 : Cond.methodLink (cz_on 10) 284 (cz_nm mX6_keepAct) ∈ cz_T := bq25.2.2.2.2.2.2.2.2.2.2.2.2.2.2.2.2.1
theorem fl10_288 : cz_fl 10 288 = some (10, 11, 3, false) := by decide +kernel
theorem lk10_291 : Cond.methodLink (cz_on 10) 291 (cz_nm mX10_allowed) ∈ cz_T := bq25.2.2.2.2.2.2.2.2.2.2.2.2.2.2.2.2.2.2.2.2.2.2.2.2.2.2.2.1
theorem lk10_295 : Cond.methodLink (cz_on 10) 295 (cz_nm mX3_add) ∈ cz_T := bq26.2.2.2.2.2.2.2.2.1
theorem lk10_299 : Cond.methodLink (cz_on 10) 299 (cz_nm mX6_takeBack) ∈ cz_T := bq26.2.2.2.2.2.2.2.2.2.2.2.2.2.2.2.2.2.2.2.2.2.2.2.2.2.1
theorem lk10_303 : Cond.methodLink (cz_on 10) 303 (cz_nm mX6_keepMark) ∈ cz_T := bq27.2.2.2.1
theorem lk10_307 : Cond.methodLink (cz_on 10) 307 (cz_nm mX6_goBack) ∈ cz_T := bq27.2.2.2.2.2.2.2.2.2.2.2.1
theorem fl10_311 : cz_fl 10 311 = some (0, 3, 0, false) := by decide +kernel
theorem fl10_313 : cz_fl 10 313 = some (0, 4, 1, false) := by decide +kernel
theorem fl10_317 : cz_fl 10 317 = some (2, 0, 0, false) := by decide +kernel
theorem fl10_322 : cz_fl 10 322 = some (2, 1, 0, false) := by decide +kernel
theorem fl10_332 : cz_fl 10 332 = some (0, 1, 0, false) := by decide +kernel
theorem fl10_335 : cz_fl 10 335 = some (0, 9, 0, false) := by decide +kernel
theorem fl10_338 : cz_fl 10 338 = some (0, 13, 0, false) := by decide +kernel
theorem fl10_341 : cz_fl 10 341 = some (0, 8, 1, false) := by decide +kernel
theorem fl10_345 : cz_fl 10 345 = some (4, 0, 0, false) := by decide +kernel
theorem fl10_350 : cz_fl 10 350 = some (6, 0, 0, false) := by decide +kernel
theorem fl10_353 : cz_fl 10 353 = some (6, 2, 0, false) := by decide +kernel
theorem ld10_356 : Cond.constant (cz_on 10) 356 (-100000) ∈ cz_T := bq19.2.2.2.2.2.2.2.2.2.1
theorem ld10_357 : Cond.constant (cz_on 10) 357 (65537) ∈ cz_T := bq24.2.2.2.2.2.2.2.2.2.2.2.2.2.2.2.2.2.2.2.2.2.2.2.1
theorem fl10_358 : cz_fl 10 358 = some (10, 9, 3, false) := by decide +kernel
theorem fl10_361 : cz_fl 10 361 = some (2, 2, 0, false) := by decide +kernel
theorem fl10_364 : cz_fl 10 364 = some (3, 3, 1, false) := by decide +kernel
theorem fl10_366 : cz_fl 10 366 = some (2, 3, 0, false) := by decide +kernel
theorem fl10_369 : cz_fl 10 369 = some (3, 4, 1, false) := by decide +kernel
theorem lk10_371 : Cond.methodLink (cz_on 10) 371 (cz_nm mX5_minuteOfVein) ∈ cz_T := bq21.1
theorem lk10_374 : Cond.methodLink (cz_on 10) 374 (cz_nm mX5_missesAny) ∈ cz_T := bq23.2.2.2.2.2.2.2.2.2.2.2.2.2.2.2.2.2.2.2.2.1
theorem lk11_3 : Cond.methodLink (cz_on 11) 3 objectInit ∈ cz_T := bq29.2.2.2.2.2.2.2.2.2.2.2.2.2.2.2.2.2.2.2.2.2.1
theorem fl11_9 : cz_fl 11 9 = some (11, 10, 1, false) := by decide +kernel
theorem fl11_15 : cz_fl 11 15 = some (11, 11, 1, false) := by decide +kernel
theorem fl11_18 : cz_fl 11 18 = some (11, 12, 1, false) := by decide +kernel
theorem fl11_21 : cz_fl 11 21 = some (11, 13, 1, false) := by decide +kernel
theorem fl11_24 : cz_fl 11 24 = some (11, 14, 1, false) := by decide +kernel
theorem fl11_27 : cz_fl 11 27 = some (11, 15, 1, false) := by decide +kernel
theorem fl11_30 : cz_fl 11 30 = some (11, 16, 1, false) := by decide +kernel
theorem fl11_33 : cz_fl 11 33 = some (11, 17, 1, false) := by decide +kernel
theorem fl11_36 : cz_fl 11 36 = some (11, 18, 1, false) := by decide +kernel
theorem fl11_39 : cz_fl 11 39 = some (11, 19, 1, false) := by decide +kernel
theorem fl11_43 : cz_fl 11 43 = some (11, 20, 1, false) := by decide +kernel
theorem fl11_46 : cz_fl 11 46 = some (11, 21, 1, false) := by decide +kernel
theorem fl11_49 : cz_fl 11 49 = some (11, 22, 1, false) := by decide +kernel
theorem fl11_52 : cz_fl 11 52 = some (11, 23, 1, false) := by decide +kernel
theorem fl11_55 : cz_fl 11 55 = some (11, 24, 1, false) := by decide +kernel
theorem fl11_58 : cz_fl 11 58 = some (11, 25, 1, false) := by decide +kernel
theorem fl11_61 : cz_fl 11 61 = some (11, 26, 1, false) := by decide +kernel
theorem fl11_64 : cz_fl 11 64 = some (11, 27, 1, false) := by decide +kernel
theorem fl11_67 : cz_fl 11 67 = some (11, 28, 1, false) := by decide +kernel
theorem fl11_70 : cz_fl 11 70 = some (11, 29, 1, false) := by decide +kernel
theorem fl11_73 : cz_fl 11 73 = some (11, 30, 1, false) := by decide +kernel
theorem fl11_77 : cz_fl 11 77 = some (11, 31, 1, false) := by decide +kernel
theorem fl11_80 : cz_fl 11 80 = some (11, 32, 1, false) := by decide +kernel
theorem fl11_83 : cz_fl 11 83 = some (11, 7, 0, false) := by decide +kernel
theorem lk12_3 : Cond.methodLink (cz_on 12) 3 objectInit ∈ cz_T := bq29.2.2.2.2.2.1
theorem fl12_9 : cz_fl 12 9 = some (12, 2, 0, false) := by decide +kernel
theorem fl12_13 : cz_fl 12 13 = some (12, 5, 1, false) := by decide +kernel
theorem fl12_17 : cz_fl 12 17 = some (12, 16, 1, false) := by decide +kernel
theorem fl12_21 : cz_fl 12 21 = some (12, 17, 1, false) := by decide +kernel
theorem fl12_24 : cz_fl 12 24 = some (12, 18, 1, false) := by decide +kernel
theorem fl12_27 : cz_fl 12 27 = some (12, 21, 1, false) := by decide +kernel
theorem fl12_31 : cz_fl 12 31 = some (12, 22, 1, false) := by decide +kernel
theorem fl12_34 : cz_fl 12 34 = some (12, 23, 1, false) := by decide +kernel
theorem fl12_37 : cz_fl 12 37 = some (12, 24, 1, false) := by decide +kernel
theorem fl12_40 : cz_fl 12 40 = some (12, 25, 1, false) := by decide +kernel
theorem fl12_43 : cz_fl 12 43 = some (12, 26, 1, false) := by decide +kernel
theorem fl12_46 : cz_fl 12 46 = some (12, 27, 1, false) := by decide +kernel
theorem fl12_49 : cz_fl 12 49 = some (12, 28, 1, false) := by decide +kernel
theorem fl12_52 : cz_fl 12 52 = some (12, 29, 1, false) := by decide +kernel
theorem fl12_55 : cz_fl 12 55 = some (12, 30, 1, false) := by decide +kernel
theorem fl12_58 : cz_fl 12 58 = some (12, 31, 1, false) := by decide +kernel
theorem fl12_61 : cz_fl 12 61 = some (12, 32, 1, false) := by decide +kernel
theorem fl12_64 : cz_fl 12 64 = some (12, 33, 1, false) := by decide +kernel
theorem fl12_67 : cz_fl 12 67 = some (12, 35, 1, false) := by decide +kernel
theorem fl12_73 : cz_fl 12 73 = some (12, 1, 0, false) := by decide +kernel
theorem lk12_76 : Cond.methodLink (cz_on 12) 76 (cz_nm mX12_refused) ∈ cz_T := bq29.2.2.2.2.2.2.2.2.2.2.2.2.2.2.1
theorem ld12_80 : Cond.constant (cz_on 12) 80 (-100000) ∈ cz_T := bq37.2.2.2.2.2.2.2.2.2.2.2.2.2.2.2.2.2.1
theorem lk12_81 : Cond.methodLink (cz_on 12) 81 (cz_nm mX12_good) ∈ cz_T := bq33.2.2.2.2.2.2.2.1
theorem fl12_84 : cz_fl 12 84 = some (12, 7, 0, false) := by decide +kernel
theorem lk12_87 : Cond.methodLink (cz_on 12) 87 (cz_nm mJ0_length_8abf5) ∈ cz_T := bq30.2.2.2.2.2.2.2.2.2.2.2.2.2.2.2.2.2.2.2.2.2.2.2.2.2.1
theorem ld12_93 : Cond.constantLong (cz_on 12) 93 (32) ∈ cz_T := bq30.2.2.2.2.2.2.2.2.2.1
theorem lk12_95 : Cond.methodLink (cz_on 12) 95 (cz_nm mJ0_charAt_5068e) ∈ cz_T := bq30.2.2.2.2.2.2.2.2.2.2.2.2.2.2.2.2.2.2.2.2.2.2.2.2.2.2.1
theorem fl12_99 : cz_fl 12 99 = some (12, 9, 0, false) := by decide +kernel
theorem fl12_102 : cz_fl 12 102 = some (12, 8, 0, false) := by decide +kernel
theorem lk12_105 : Cond.methodLink (cz_on 12) 105 (cz_nm mX12_byteAt) ∈ cz_T := bq30.2.2.2.1
theorem fl12_108 : cz_fl 12 108 = some (12, 10, 0, false) := by decide +kernel
theorem fl12_111 : cz_fl 12 111 = some (12, 11, 0, false) := by decide +kernel
theorem lk12_114 : Cond.methodLink (cz_on 12) 114 (cz_nm mX12_isLetter) ∈ cz_T := bq30.2.2.2.2.2.2.1
theorem fl12_118 : cz_fl 12 118 = some (12, 15, 2, false) := by decide +kernel
theorem lk12_122 : Cond.methodLink (cz_on 12) 122 (cz_nm mX12_isDigit) ∈ cz_T := bq30.2.2.2.2.2.2.2.2.2.2.1
theorem fl12_125 : cz_fl 12 125 = some (12, 12, 0, false) := by decide +kernel
theorem fl12_128 : cz_fl 12 128 = some (12, 13, 0, false) := by decide +kernel
theorem fl12_131 : cz_fl 12 131 = some (12, 14, 0, false) := by decide +kernel
theorem lk12_134 : Cond.methodLink (cz_on 12) 134 (cz_nm mX12_wordOf) ∈ cz_T := bq30.2.2.2.2.2.2.2.2.2.2.2.2.2.2.2.2.2.2.2.2.2.2.1
theorem lk12_138 : Cond.methodLink (cz_on 12) 138 (cz_nm mX12_isWord) ∈ cz_T := bq30.2.2.2.2.2.2.2.2.2.2.2.2.2.2.2.2.2.2.2.1
theorem lk12_142 : Cond.methodLink (cz_on 12) 142 (cz_nm mX12_goesOn) ∈ cz_T := bq30.1
theorem lk12_145 : Cond.methodLink (cz_on 12) 145 (cz_nm mX12_flaw) ∈ cz_T := bq31.1
theorem lk12_149 : Cond.methodLink (cz_on 12) 149 (cz_nm mX12_in) ∈ cz_T := bq31.2.2.2.2.2.2.2.2.2.2.2.2.2.2.2.1
theorem lk12_153 : Cond.methodLink (cz_on 12) 153 (cz_nm mX12_bounded) ∈ cz_T := bq31.2.2.2.2.2.2.2.2.2.2.2.2.1
theorem lk12_157 : Cond.methodLink (cz_on 12) 157 (cz_nm mX12_needs) ∈ cz_T := bq31.2.2.2.2.2.2.1
theorem lk12_161 : Cond.methodLink (cz_on 12) 161 (cz_nm mX12_readWhole) ∈ cz_T := bq31.2.2.2.2.2.2.2.2.2.1
theorem ld12_164 : (cz_on 12, 164, "alp", (1 : UInt32).toNat) ∈ cz_SR := List.mem_of_getElem? (i := 27) (by decide +kernel)
theorem ld12_166 : (cz_on 12, 166, "cloud", (7 : UInt32).toNat) ∈ cz_SR := List.mem_of_getElem? (i := 31) (by decide +kernel)
theorem ld12_168 : (cz_on 12, 168, "eclipse", (11 : UInt32).toNat) ∈ cz_SR := List.mem_of_getElem? (i := 33) (by decide +kernel)
theorem ld12_170 : (cz_on 12, 170, "lamp", (17 : UInt32).toNat) ∈ cz_SR := List.mem_of_getElem? (i := 34) (by decide +kernel)
theorem ld12_172 : (cz_on 12, 172, "shutter", (22 : UInt32).toNat) ∈ cz_SR := List.mem_of_getElem? (i := 35) (by decide +kernel)
theorem ld12_174 : (cz_on 12, 174, "bolt", (4 : UInt32).toNat) ∈ cz_SR := List.mem_of_getElem? (i := 36) (by decide +kernel)
theorem ld12_176 : (cz_on 12, 176, "cheese", (6 : UInt32).toNat) ∈ cz_SR := List.mem_of_getElem? (i := 37) (by decide +kernel)
theorem ld12_178 : (cz_on 12, 178, "almanac", (0 : UInt32).toNat) ∈ cz_SR := List.mem_of_getElem? (i := 38) (by decide +kernel)
theorem ld12_180 : (cz_on 12, 180, "turner", (26 : UInt32).toNat) ∈ cz_SR := List.mem_of_getElem? (i := 39) (by decide +kernel)
theorem ld12_182 : (cz_on 12, 182, "call", (5 : UInt32).toNat) ∈ cz_SR := List.mem_of_getElem? (i := 40) (by decide +kernel)
theorem ld12_184 : (cz_on 12, 184, "slice", (23 : UInt32).toNat) ∈ cz_SR := List.mem_of_getElem? (i := 41) (by decide +kernel)
theorem ld12_186 : (cz_on 12, 186, "down", (10 : UInt32).toNat) ∈ cz_SR := List.mem_of_getElem? (i := 42) (by decide +kernel)
theorem fl12_188 : cz_fl 12 188 = some (12, 4, 1, false) := by decide +kernel
theorem fl12_192 : cz_fl 12 192 = some (11, 0, 0, true) := by decide +kernel
theorem lk12_197 : Cond.methodLink (cz_on 12) 197 (cz_nm mX12_isName) ∈ cz_T := bq32.2.2.2.1
theorem lk12_201 : Cond.methodLink (cz_on 12) 201 (cz_nm mX11_find) ∈ cz_T := bq32.2.2.2.2.2.2.1
theorem fl12_205 : cz_fl 12 205 = some (11, 30, 1, true) := by decide +kernel
theorem fl12_209 : cz_fl 12 209 = some (11, 7, 0, true) := by decide +kernel
theorem fl12_212 : cz_fl 12 212 = some (11, 31, 1, true) := by decide +kernel
theorem fl12_215 : cz_fl 12 215 = some (11, 32, 1, true) := by decide +kernel
theorem lk12_218 : Cond.methodLink (cz_on 12) 218 (cz_nm mX12_readLine) ∈ cz_T := bq30.2.2.2.2.2.2.2.2.2.2.2.2.2.2.2.2.1
theorem lk12_221 : Cond.methodLink (cz_on 12) 221 (cz_nm mX12_eatsSign) ∈ cz_T := bq32.2.2.2.2.2.2.2.2.2.2.2.2.2.2.2.2.2.2.2.2.2.2.1
theorem fl12_224 : cz_fl 12 224 = some (11, 3, 0, true) := by decide +kernel
theorem lk12_227 : Cond.methodLink (cz_on 12) 227 (cz_nm mX12_readAlp) ∈ cz_T := bq30.2.2.2.2.2.2.2.2.2.2.2.2.2.2.2.2.2.2.2.2.2.2.2.2.2.2.2.1
theorem lk12_230 : Cond.methodLink (cz_on 12) 230 (cz_nm mX12_readEvent) ∈ cz_T := bq31.2.2.2.2.2.2.2.2.2.2.2.2.2.2.2.2.2.2.2.2.2.1
theorem lk12_233 : Cond.methodLink (cz_on 12) 233 (cz_nm mX12_readCheese) ∈ cz_T := bq31.2.2.2.2.2.2.2.2.2.2.2.2.2.2.2.2.2.2.2.2.2.2.2.2.2.2.2.1
theorem lk12_236 : Cond.methodLink (cz_on 12) 236 (cz_nm mX12_readAlmanac) ∈ cz_T := bq32.2.2.2.2.2.2.2.2.2.2.2.2.2.2.2.2.1
theorem lk12_239 : Cond.methodLink (cz_on 12) 239 (cz_nm mX12_readTurner) ∈ cz_T := bq32.2.2.2.2.2.2.2.2.2.2.2.2.2.2.2.2.2.2.2.2.2.2.2.2.2.1
theorem lk12_242 : Cond.methodLink (cz_on 12) 242 (cz_nm mX12_readCall) ∈ cz_T := bq33.2.1
theorem lk12_245 : Cond.methodLink (cz_on 12) 245 (cz_nm mX12_readSlice) ∈ cz_T := bq33.2.2.2.2.1
theorem ld12_248 : (cz_on 12, 248, "minutes", (18 : UInt32).toNat) ∈ cz_SR := List.mem_of_getElem? (i := 28) (by decide +kernel)
theorem lk12_249 : Cond.methodLink (cz_on 12) 249 (cz_nm mX12_readPart) ∈ cz_T := bq31.2.2.2.1
theorem ld12_253 : (cz_on 12, 253, "huts", (16 : UInt32).toNat) ∈ cz_SR := List.mem_of_getElem? (i := 29) (by decide +kernel)
theorem ld12_255 : (cz_on 12, 255, "prices", (20 : UInt32).toNat) ∈ cz_SR := List.mem_of_getElem? (i := 30) (by decide +kernel)
theorem lk12_257 : Cond.methodLink (cz_on 12) 257 (cz_nm mX12_needsSign) ∈ cz_T := bq31.2.2.2.2.2.2.2.2.2.2.2.2.2.2.2.2.2.2.1
theorem fl12_260 : cz_fl 12 260 = some (11, 10, 1, true) := by decide +kernel
theorem fl12_263 : cz_fl 12 263 = some (11, 1, 0, true) := by decide +kernel
theorem fl12_265 : cz_fl 12 265 = some (11, 2, 0, true) := by decide +kernel
theorem lk12_268 : Cond.methodLink (cz_on 12) 268 (cz_nm mX12_begins) ∈ cz_T := bq31.2.2.2.2.2.2.2.2.2.2.2.2.2.2.2.2.2.2.2.2.2.2.2.2.1
theorem ld12_272 : (cz_on 12, 272, "to", (25 : UInt32).toNat) ∈ cz_SR := List.mem_of_getElem? (i := 32) (by decide +kernel)
theorem fl12_274 : cz_fl 12 274 = some (11, 11, 1, true) := by decide +kernel
theorem fl12_277 : cz_fl 12 277 = some (11, 12, 1, true) := by decide +kernel
theorem fl12_280 : cz_fl 12 280 = some (11, 13, 1, true) := by decide +kernel
theorem fl12_283 : cz_fl 12 283 = some (11, 14, 1, true) := by decide +kernel
theorem lk12_285 : Cond.methodLink (cz_on 12) 285 (cz_nm mX12_readFresh) ∈ cz_T := bq32.1
theorem ld12_289 : (cz_on 12, 289, "hut", (15 : UInt32).toNat) ∈ cz_SR := List.mem_of_getElem? (i := 43) (by decide +kernel)
theorem lk12_290 : Cond.methodLink (cz_on 12) 290 (cz_nm mX12_eatsWord) ∈ cz_T := bq32.2.2.2.2.2.2.2.2.2.2.1
theorem lk12_293 : Cond.methodLink (cz_on 12) 293 (cz_nm mX12_names) ∈ cz_T := bq32.2.2.2.2.2.2.2.2.2.2.2.2.2.1
theorem fl12_296 : cz_fl 12 296 = some (11, 15, 1, true) := by decide +kernel
theorem fl12_299 : cz_fl 12 299 = some (11, 19, 1, true) := by decide +kernel
theorem fl12_302 : cz_fl 12 302 = some (11, 9, 3, true) := by decide +kernel
theorem fl12_306 : cz_fl 12 306 = some (11, 16, 1, true) := by decide +kernel
theorem lk12_308 : Cond.methodLink (cz_on 12) 308 (cz_nm mX12_readRising) ∈ cz_T := bq32.2.2.2.2.2.2.2.2.2.2.2.2.2.2.2.2.2.2.2.1
theorem fl12_312 : cz_fl 12 312 = some (11, 8, 0, true) := by decide +kernel
theorem fl12_315 : cz_fl 12 315 = some (11, 4, 0, true) := by decide +kernel
theorem ld12_318 : (cz_on 12, 318, "sees", (21 : UInt32).toNat) ∈ cz_SR := List.mem_of_getElem? (i := 44) (by decide +kernel)
theorem ld12_320 : (cz_on 12, 320, "blind", (3 : UInt32).toNat) ∈ cz_SR := List.mem_of_getElem? (i := 45) (by decide +kernel)
theorem ld12_322 : (cz_on 12, 322, "deaf", (9 : UInt32).toNat) ∈ cz_SR := List.mem_of_getElem? (i := 46) (by decide +kernel)
theorem ld12_324 : (cz_on 12, 324, "from", (13 : UInt32).toNat) ∈ cz_SR := List.mem_of_getElem? (i := 47) (by decide +kernel)
theorem ld12_325 : (cz_on 12, 325, "hands", (14 : UInt32).toNat) ∈ cz_SR := List.mem_of_getElem? (i := 48) (by decide +kernel)
theorem ld12_327 : (cz_on 12, 327, "takes", (24 : UInt32).toNat) ∈ cz_SR := List.mem_of_getElem? (i := 49) (by decide +kernel)
theorem lk12_329 : Cond.methodLink (cz_on 12) 329 (cz_nm mX12_has) ∈ cz_T := bq32.2.2.2.2.2.2.2.2.2.2.2.2.2.2.2.2.2.2.2.2.2.2.2.2.2.2.2.2.1
theorem fl12_333 : cz_fl 12 333 = some (11, 20, 1, true) := by decide +kernel
theorem fl12_336 : cz_fl 12 336 = some (11, 21, 1, true) := by decide +kernel
theorem fl12_339 : cz_fl 12 339 = some (11, 22, 1, true) := by decide +kernel
theorem fl12_342 : cz_fl 12 342 = some (11, 23, 1, true) := by decide +kernel
theorem fl12_344 : cz_fl 12 344 = some (11, 24, 1, true) := by decide +kernel
theorem fl12_346 : cz_fl 12 346 = some (11, 25, 1, true) := by decide +kernel
theorem fl12_349 : cz_fl 12 349 = some (11, 5, 0, true) := by decide +kernel
theorem ld12_352 : (cz_on 12, 352, "at", (2 : UInt32).toNat) ∈ cz_SR := List.mem_of_getElem? (i := 50) (by decide +kernel)
theorem ld12_354 : (cz_on 12, 354, "for", (12 : UInt32).toNat) ∈ cz_SR := List.mem_of_getElem? (i := 51) (by decide +kernel)
theorem ld12_356 : (cz_on 12, 356, "costs", (8 : UInt32).toNat) ∈ cz_SR := List.mem_of_getElem? (i := 52) (by decide +kernel)
theorem fl12_358 : cz_fl 12 358 = some (11, 26, 1, true) := by decide +kernel
theorem fl12_361 : cz_fl 12 361 = some (11, 27, 1, true) := by decide +kernel
theorem fl12_364 : cz_fl 12 364 = some (11, 28, 1, true) := by decide +kernel
theorem fl12_367 : cz_fl 12 367 = some (11, 29, 1, true) := by decide +kernel
theorem fl12_370 : cz_fl 12 370 = some (11, 6, 0, true) := by decide +kernel
theorem fl12_373 : cz_fl 12 373 = some (11, 18, 1, true) := by decide +kernel
theorem fl12_375 : cz_fl 12 375 = some (11, 17, 1, true) := by decide +kernel
theorem fl12_70 : cz_fl 12 70 = some (12, 0, 0, false) := by decide +kernel
theorem fl12_378 : cz_fl 12 378 = some (12, 6, 0, false) := by decide +kernel
theorem lc12_193 : Cond.classLink (cz_on 12) 193 (cz_on 11) ∈ cz_T := bq29.2.2.2.2.2.2.2.2.2.2.2.2.2.2.2.2.2.1
theorem lk12_381 : (cz_on 12, 381, cz_nm mX11_init, "EclipseCheeseModel") ∈ cz_NM := List.mem_of_getElem? (i := 10) (by decide +kernel)
theorem lk12_382 : Cond.methodLink (cz_on 12) 382 (cz_nm mX12_readAll) ∈ cz_T := bq30.2.2.2.2.2.2.2.2.2.2.2.2.2.1
theorem fl12_385 : cz_fl 12 385 = some (12, 3, 1, false) := by decide +kernel
theorem fl12_387 : cz_fl 12 387 = some (12, 19, 0, false) := by decide +kernel
theorem fl12_390 : cz_fl 12 390 = some (12, 20, 0, false) := by decide +kernel
theorem lk12_393 : Cond.methodLink (cz_on 12) 393 (cz_nm mX12_events) ∈ cz_T := bq33.2.2.2.2.2.2.2.2.2.2.2.2.2.2.2.2.2.2.2.2.2.2.2.2.2.2.2.2.1
theorem lk12_395 : Cond.methodLink (cz_on 12) 395 (cz_nm mX12_fromOf) ∈ cz_T := bq34.2.1
theorem lk12_398 : Cond.methodLink (cz_on 12) 398 (cz_nm mX12_toOf) ∈ cz_T := bq34.2.2.2.2.1
theorem lk12_401 : Cond.methodLink (cz_on 12) 401 (cz_nm mX12_marksLight) ∈ cz_T := bq34.2.2.2.2.2.2.2.1
theorem lk12_404 : Cond.methodLink (cz_on 12) 404 (cz_nm mX12_kindOf) ∈ cz_T := bq34.2.2.2.2.2.2.2.2.2.2.1
theorem lk12_407 : Cond.methodLink (cz_on 12) 407 (cz_nm mX12_hutOf) ∈ cz_T := bq34.2.2.2.2.2.2.2.2.2.2.2.2.2.1
theorem lk12_410 : Cond.methodLink (cz_on 12) 410 (cz_nm mX12_isInAlmanac) ∈ cz_T := bq36.2.2.2.2.2.2.2.2.2.2.2.2.2.2.2.1
theorem lk12_413 : Cond.methodLink (cz_on 12) 413 (cz_nm mX12_changesIn) ∈ cz_T := bq35.2.2.2.2.2.2.2.2.2.2.1
theorem lk12_416 : Cond.methodLink (cz_on 12) 416 (cz_nm mX12_seemsToIn) ∈ cz_T := bq35.2.2.2.2.2.2.2.1
theorem lk12_419 : Cond.methodLink (cz_on 12) 419 (cz_nm mX12_isAwake) ∈ cz_T := bq36.2.2.2.2.2.1
theorem lk12_422 : Cond.methodLink (cz_on 12) 422 (cz_nm mX12_turns) ∈ cz_T := bq37.2.1
theorem lk12_425 : Cond.methodLink (cz_on 12) 425 (cz_nm mX12_notes) ∈ cz_T := bq37.2.2.2.2.1
theorem lk12_428 : Cond.methodLink (cz_on 12) 428 (cz_nm mX12_priceOf) ∈ cz_T := bq37.2.2.2.2.2.2.2.1
theorem lk12_431 : Cond.methodLink (cz_on 12) 431 (cz_nm mX12_noticesIn) ∈ cz_T := bq36.2.2.2.2.2.2.2.2.2.2.2.2.1
theorem lk12_434 : Cond.methodLink (cz_on 12) 434 (cz_nm mX12_laysLight) ∈ cz_T := bq33.2.2.2.2.2.2.2.2.2.2.2.2.2.2.2.2.2.2.2.2.2.2.2.2.2.1
theorem lk12_437 : Cond.methodLink (cz_on 12) 437 (cz_nm mX12_everybody) ∈ cz_T := bq36.2.2.2.2.2.2.2.2.2.2.2.2.2.2.2.2.2.2.2.2.2.2.2.2.2.1
theorem lk12_440 : Cond.methodLink (cz_on 12) 440 (cz_nm mX12_goes) ∈ cz_T := bq36.2.2.2.2.2.2.2.2.2.2.2.2.2.2.2.2.2.2.2.2.2.2.2.2.2.2.2.2.1
theorem lk12_443 : Cond.methodLink (cz_on 12) 443 (cz_nm mX12_isMinute) ∈ cz_T := bq33.2.2.2.2.2.2.2.2.2.2.2.2.2.2.2.2.2.2.2.2.2.2.1
theorem lk12_446 : Cond.methodLink (cz_on 12) 446 (cz_nm mX12_isHut) ∈ cz_T := bq35.1
theorem lk12_449 : Cond.methodLink (cz_on 12) 449 (cz_nm mX12_dueIn) ∈ cz_T := bq35.2.2.2.2.2.2.2.2.2.2.2.2.2.2.2.2.2.2.2.2.2.1
theorem lk12_452 : Cond.methodLink (cz_on 12) 452 (cz_nm mX12_isTurner) ∈ cz_T := bq36.2.2.1
theorem lk12_455 : Cond.methodLink (cz_on 12) 455 (cz_nm mX12_tonight) ∈ cz_T := bq36.2.2.2.2.2.2.2.2.2.2.2.2.2.2.2.2.2.2.2.2.2.2.1
theorem lk12_458 : Cond.methodLink (cz_on 12) 458 (cz_nm mX12_lost) ∈ cz_T := bq37.2.2.2.2.2.2.2.2.2.2.2.2.2.2.1
theorem lk12_461 : Cond.methodLink (cz_on 12) 461 (cz_nm mX12_isCheese) ∈ cz_T := bq37.2.2.2.2.2.2.2.2.2.2.2.2.2.2.2.2.2.2.2.2.2.2.1
theorem lk12_464 : Cond.methodLink (cz_on 12) 464 (cz_nm mX12_veinAt) ∈ cz_T := bq38.2.2.2.2.2.2.2.1
theorem lk12_467 : Cond.methodLink (cz_on 12) 467 (cz_nm mX12_isEvent) ∈ cz_T := bq38.2.2.2.2.2.2.2.2.2.2.2.2.2.2.2.2.2.2.2.2.2.2.1
theorem fl12_470 : cz_fl 12 470 = some (12, 34, 0, false) := by decide +kernel
theorem lk12_473 : Cond.methodLink (cz_on 12) 473 (cz_nm mX12_bits) ∈ cz_T := bq39.2.2.1
theorem lk12_476 : Cond.methodLink (cz_on 12) 476 (cz_nm mX12_wakeNow) ∈ cz_T := bq38.2.2.2.2.2.2.2.2.2.2.2.2.2.2.2.2.2.2.2.2.2.2.2.2.2.2.2.2.2.1
theorem lk12_479 : Cond.methodLink (cz_on 12) 479 (cz_nm mX12_missesNone) ∈ cz_T := bq39.2.2.2.2.2.2.2.2.2.2.2.2.2.2.2.2.1
theorem lk12_482 : Cond.methodLink (cz_on 12) 482 (cz_nm mX12_fewestNow) ∈ cz_T := bq39.2.2.2.2.2.2.2.2.2.2.2.2.2.1
theorem lk12_485 : Cond.methodLink (cz_on 12) 485 (cz_nm mX12_isSlice) ∈ cz_T := bq39.2.2.2.2.2.2.2.2.2.2.2.2.2.2.2.2.2.2.2.2.2.2.2.2.2.2.2.1
theorem lk12_488 : Cond.methodLink (cz_on 12) 488 (cz_nm mX12_fitsNow) ∈ cz_T := bq40.1
theorem ld12_491 : Cond.constantLong (cz_on 12) 491 (75) ∈ cz_T := bq40.2.2.2.2.2.2.2.2.2.2.2.2.2.2.2.2.2.2.1
theorem ld12_493 : Cond.constantLong (cz_on 12) 493 (74) ∈ cz_T := bq40.2.2.2.2.2.2.2.2.2.2.2.2.2.2.2.2.2.2.2.1
theorem ld12_495 : Cond.constantLong (cz_on 12) 495 (65537) ∈ cz_T := bq40.2.2.2.2.2.2.2.2.2.2.2.2.2.2.2.2.2.2.2.2.1
theorem lk12_497 : Cond.methodLink (cz_on 12) 497 (cz_nm mX12_drawOf) ∈ cz_T := bq40.2.2.2.2.2.2.2.2.2.2.2.2.2.2.2.1
theorem lk12_500 : Cond.methodLink (cz_on 12) 500 (cz_nm mX12_comes) ∈ cz_T := bq40.2.2.2.2.2.2.2.2.2.2.2.2.2.2.2.2.2.2.2.2.2.1
theorem ld12_503 : Cond.constant (cz_on 12) 503 (65536) ∈ cz_T := bq40.2.2.2.2.2.2.2.2.2.2.2.1
theorem lk12_504 : Cond.methodLink (cz_on 12) 504 (cz_nm mX12_draws) ∈ cz_T := bq40.2.2.2.2.2.2.2.2.2.2.2.2.1
theorem lk12_507 : Cond.methodLink (cz_on 12) 507 (cz_nm mX12_denied) ∈ cz_T := bq40.2.2.2.2.2.2.2.2.2.2.2.2.2.2.2.2.2.2.2.2.2.2.2.2.2.2.2.2.1
theorem lk12_510 : Cond.methodLink (cz_on 12) 510 (cz_nm mX12_keeps) ∈ cz_T := bq41.2.1
theorem lk12_513 : Cond.methodLink (cz_on 12) 513 (cz_nm mX12_granted) ∈ cz_T := bq41.2.2.2.2.1
theorem ld14_265 : Cond.constant (cz_on 14) 265 (1431655765) ∈ cz_T := bq23.2.2.2.2.2.2.1
theorem ld14_266 : Cond.constant (cz_on 14) 266 (858993459) ∈ cz_T := bq23.2.2.2.2.2.2.2.1
theorem ld14_267 : Cond.constant (cz_on 14) 267 (252645135) ∈ cz_T := bq23.2.2.2.2.2.2.2.2.1
theorem lk17_335 : Cond.methodLink (cz_on 17) 335 (cz_nm mJ0_coder_7d493) ∈ cz_T := bq10.2.2.2.2.2.2.2.2.2.2.2.2.2.2.2.2.2.2.2.1
theorem lk17_492 : Cond.methodLink (cz_on 17) 492 (cz_nm mJ0_isLatin1_aae02) ∈ cz_T := bq10.2.2.2.2.2.2.2.2.2.2.2.2.2.2.2.2.2.2.2.2.2.2.2.2.2.2.2.1
theorem lk17_495 : Cond.methodLink (cz_on 17) 495 (cz_nm mJ1_charAt_3b067) ∈ cz_T := bq11.2.1
theorem lk17_1059 : Cond.methodLink (cz_on 17) 1059 (cz_nm mJ3_checkIndex_8e157) ∈ cz_T := bq11.2.2.2.2.2.2.2.1
theorem lk18_9 : Cond.methodLink (cz_on 18) 9 (cz_nm mJ0_checkIndex_df160) ∈ cz_T := bq11.2.2.2.2.1
theorem lk13_7 : Cond.methodLink (cz_on 13) 7 (cz_nm mX10_led) ∈ cz_T := bq27.2.2.2.2.2.2.2.2.2.2.2.2.2.2.2.2.2.2.2.2.2.2.2.2.2.2.2.1
theorem lc13_8 : Cond.classLink (cz_on 13) 8 (cz_on 10) ∈ cz_T := bq5.2.2.2.2.2.2.2.2.2.2.2.2.2.2.2.2.2.2.2.2.1
theorem lk13_15 : Cond.methodLink (cz_on 13) 15 (cz_nm mX10_init) ∈ cz_T := bq5.2.2.2.2.2.2.2.2.2.2.2.2.2.2.2.2.2.2.2.2.2.2.1
theorem lc13_16 : Cond.classLink (cz_on 13) 16 (cz_on 12) ∈ cz_T := bq29.1
theorem lk13_18 : Cond.methodLink (cz_on 13) 18 (cz_nm mX12_init) ∈ cz_T := bq29.2.2.1
theorem lk13_19 : Cond.methodLink (cz_on 13) 19 (cz_nm mX10_feed) ∈ cz_T := bq9.1
theorem lk13_23 : Cond.methodLink (cz_on 13) 23 (cz_nm mX12_feed) ∈ cz_T := bq29.2.2.2.2.2.2.1
theorem lk13_24 : Cond.methodLink (cz_on 13) 24 (cz_nm mX10_alp) ∈ cz_T := bq9.2.2.2.2.2.2.2.1
theorem lk13_27 : Cond.methodLink (cz_on 13) 27 (cz_nm mX12_alp) ∈ cz_T := bq29.2.2.2.2.2.2.2.2.2.2.1
theorem lk13_28 : Cond.methodLink (cz_on 13) 28 (cz_nm mX10_fault) ∈ cz_T := bq14.2.2.2.2.2.2.2.2.2.2.2.2.2.2.2.2.1
theorem lk13_32 : Cond.methodLink (cz_on 13) 32 (cz_nm mX12_fault) ∈ cz_T := bq33.2.2.2.2.2.2.2.2.2.2.1
theorem lk13_33 : Cond.methodLink (cz_on 13) 33 (cz_nm mX10_where) ∈ cz_T := bq14.2.2.2.2.2.2.2.2.2.2.2.2.2.2.2.2.2.2.2.2.1
theorem lk13_36 : Cond.methodLink (cz_on 13) 36 (cz_nm mX12_where) ∈ cz_T := bq33.2.2.2.2.2.2.2.2.2.2.2.2.2.2.1
theorem lk13_37 : Cond.methodLink (cz_on 13) 37 (cz_nm mX10_sky) ∈ cz_T := bq14.2.2.2.2.2.2.2.2.2.2.2.2.2.2.2.2.2.2.2.2.2.2.2.2.1
theorem lk13_40 : Cond.methodLink (cz_on 13) 40 (cz_nm mX12_sky) ∈ cz_T := bq33.2.2.2.2.2.2.2.2.2.2.2.2.2.2.2.2.2.2.1
theorem lk13_41 : Cond.methodLink (cz_on 13) 41 (cz_nm mX10_light) ∈ cz_T := bq16.2.2.1
theorem lk13_45 : Cond.methodLink (cz_on 13) 45 (cz_nm mX12_light) ∈ cz_T := bq34.2.2.2.2.2.2.2.2.2.2.2.2.2.2.2.2.1
theorem lk13_46 : Cond.methodLink (cz_on 13) 46 (cz_nm mX10_changes) ∈ cz_T := bq16.2.2.2.2.2.2.2.2.2.2.1
theorem lk13_50 : Cond.methodLink (cz_on 13) 50 (cz_nm mX12_changes) ∈ cz_T := bq35.2.2.2.1
theorem lk13_51 : Cond.methodLink (cz_on 13) 51 (cz_nm mX10_change) ∈ cz_T := bq16.2.2.2.2.2.2.2.2.2.2.2.2.2.2.1
theorem lk13_55 : Cond.methodLink (cz_on 13) 55 (cz_nm mX12_change) ∈ cz_T := bq35.2.2.2.2.2.2.2.2.2.2.2.2.2.1
theorem lk13_56 : Cond.methodLink (cz_on 13) 56 (cz_nm mX10_peak) ∈ cz_T := bq16.2.2.2.2.2.2.2.2.2.2.2.2.2.2.2.2.2.2.1
theorem lk13_59 : Cond.methodLink (cz_on 13) 59 (cz_nm mX12_peak) ∈ cz_T := bq35.2.2.2.2.2.2.2.2.2.2.2.2.2.2.2.2.2.1
theorem lk13_60 : Cond.methodLink (cz_on 13) 60 (cz_nm mX10_due) ∈ cz_T := bq16.2.2.2.2.2.2.2.2.2.2.2.2.2.2.2.2.2.2.2.2.2.2.2.2.2.2.1
theorem lk13_63 : Cond.methodLink (cz_on 13) 63 (cz_nm mX12_due) ∈ cz_T := bq35.2.2.2.2.2.2.2.2.2.2.2.2.2.2.2.2.2.2.2.2.2.2.2.2.1
theorem lk13_64 : Cond.methodLink (cz_on 13) 64 (cz_nm mX10_awake) ∈ cz_T := bq17.1
theorem lk13_67 : Cond.methodLink (cz_on 13) 67 (cz_nm mX12_awake) ∈ cz_T := bq35.2.2.2.2.2.2.2.2.2.2.2.2.2.2.2.2.2.2.2.2.2.2.2.2.2.2.2.2.1
theorem lk13_68 : Cond.methodLink (cz_on 13) 68 (cz_nm mX10_notices) ∈ cz_T := bq18.2.2.2.2.2.2.2.2.2.2.2.2.2.2.2.2.2.2.2.1
theorem lk13_72 : Cond.methodLink (cz_on 13) 72 (cz_nm mX12_notices) ∈ cz_T := bq36.2.2.2.2.2.2.2.2.1
theorem lk13_73 : Cond.methodLink (cz_on 13) 73 (cz_nm mX10_work) ∈ cz_T := bq18.2.2.2.2.2.2.2.2.2.2.2.2.2.2.2.2.2.2.2.2.2.2.2.2.1
theorem lk13_76 : Cond.methodLink (cz_on 13) 76 (cz_nm mX12_work) ∈ cz_T := bq36.2.2.2.2.2.2.2.2.2.2.2.2.2.2.2.2.2.2.1
theorem lk13_77 : Cond.methodLink (cz_on 13) 77 (cz_nm mX10_worth) ∈ cz_T := bq19.2.2.1
theorem lk13_80 : Cond.methodLink (cz_on 13) 80 (cz_nm mX12_worth) ∈ cz_T := bq37.2.2.2.2.2.2.2.2.2.2.1
theorem lk13_81 : Cond.methodLink (cz_on 13) 81 (cz_nm mX10_turned) ∈ cz_T := bq19.2.2.2.2.2.2.2.2.2.2.2.2.2.2.2.2.2.2.2.2.2.2.2.2.2.1
theorem lk13_84 : Cond.methodLink (cz_on 13) 84 (cz_nm mX12_turned) ∈ cz_T := bq37.2.2.2.2.2.2.2.2.2.2.2.2.2.2.2.2.2.2.1
theorem lk13_85 : Cond.methodLink (cz_on 13) 85 (cz_nm mX10_up) ∈ cz_T := bq20.2.2.2.2.2.2.1
theorem lk13_88 : Cond.methodLink (cz_on 13) 88 (cz_nm mX12_up) ∈ cz_T := bq37.2.2.2.2.2.2.2.2.2.2.2.2.2.2.2.2.2.2.2.2.2.2.2.2.2.1
theorem lk13_89 : Cond.methodLink (cz_on 13) 89 (cz_nm mX10_cheese) ∈ cz_T := bq20.2.2.2.2.2.2.2.2.2.2.2.2.2.2.2.2.2.2.1
theorem lk13_92 : Cond.methodLink (cz_on 13) 92 (cz_nm mX12_cheese) ∈ cz_T := bq37.2.2.2.2.2.2.2.2.2.2.2.2.2.2.2.2.2.2.2.2.2.2.2.2.2.2.2.2.2.1
theorem lk13_93 : Cond.methodLink (cz_on 13) 93 (cz_nm mX10_vein) ∈ cz_T := bq20.2.2.2.2.2.2.2.2.2.2.2.2.2.2.2.2.2.2.2.2.2.2.2.1
theorem lk13_96 : Cond.methodLink (cz_on 13) 96 (cz_nm mX12_vein) ∈ cz_T := bq38.2.2.2.1
theorem lk13_97 : Cond.methodLink (cz_on 13) 97 (cz_nm mX10_cause) ∈ cz_T := bq21.2.2.2.2.1
theorem lk13_100 : Cond.methodLink (cz_on 13) 100 (cz_nm mX12_cause) ∈ cz_T := bq38.2.2.2.2.2.2.2.2.2.2.1
theorem lk13_101 : Cond.methodLink (cz_on 13) 101 (cz_nm mX10_total) ∈ cz_T := bq22.2.2.2.2.2.2.2.2.2.2.2.2.1
theorem lk13_104 : Cond.methodLink (cz_on 13) 104 (cz_nm mX12_total) ∈ cz_T := bq38.2.2.2.2.2.2.2.2.2.2.2.2.2.2.1
theorem lk13_105 : Cond.methodLink (cz_on 13) 105 (cz_nm mX10_without) ∈ cz_T := bq22.2.2.2.2.2.2.2.2.2.2.2.2.2.2.2.2.1
theorem lk13_108 : Cond.methodLink (cz_on 13) 108 (cz_nm mX12_without) ∈ cz_T := bq38.2.2.2.2.2.2.2.2.2.2.2.2.2.2.2.2.2.2.1
theorem lk13_109 : Cond.methodLink (cz_on 13) 109 (cz_nm mX10_wake) ∈ cz_T := bq22.2.2.2.2.2.2.2.2.2.2.2.2.2.2.2.2.2.2.2.2.2.2.2.1
theorem lk13_112 : Cond.methodLink (cz_on 13) 112 (cz_nm mX12_wake) ∈ cz_T := bq38.2.2.2.2.2.2.2.2.2.2.2.2.2.2.2.2.2.2.2.2.2.2.2.2.2.1
theorem lk13_113 : Cond.methodLink (cz_on 13) 113 (cz_nm mX10_wakeTotal) ∈ cz_T := bq23.2.2.2.2.2.2.2.2.2.1
theorem lk13_116 : Cond.methodLink (cz_on 13) 116 (cz_nm mX12_wakeTotal) ∈ cz_T := bq39.2.2.2.2.2.1
theorem lk13_117 : Cond.methodLink (cz_on 13) 117 (cz_nm mX10_fewest) ∈ cz_T := bq23.2.2.2.2.2.2.2.2.2.2.2.2.2.1
theorem lk13_120 : Cond.methodLink (cz_on 13) 120 (cz_nm mX12_fewest) ∈ cz_T := bq39.2.2.2.2.2.2.2.2.2.1
theorem lk13_121 : Cond.methodLink (cz_on 13) 121 (cz_nm mX10_fewestBy) ∈ cz_T := bq23.2.2.2.2.2.2.2.2.2.2.2.2.2.2.2.2.2.2.2.2.2.2.2.2.1
theorem lk13_124 : Cond.methodLink (cz_on 13) 124 (cz_nm mX12_fewestBy) ∈ cz_T := bq39.2.2.2.2.2.2.2.2.2.2.2.2.2.2.2.2.2.2.2.1
theorem lk13_125 : Cond.methodLink (cz_on 13) 125 (cz_nm mX10_fits) ∈ cz_T := bq23.2.2.2.2.2.2.2.2.2.2.2.2.2.2.2.2.2.2.2.2.2.2.2.2.2.2.2.2.1
theorem lk13_128 : Cond.methodLink (cz_on 13) 128 (cz_nm mX12_fits) ∈ cz_T := bq39.2.2.2.2.2.2.2.2.2.2.2.2.2.2.2.2.2.2.2.2.2.2.2.1
theorem lk13_129 : Cond.methodLink (cz_on 13) 129 (cz_nm mX10_by) ∈ cz_T := bq24.2.2.2.2.2.2.2.2.2.2.2.2.1
theorem lk13_132 : Cond.methodLink (cz_on 13) 132 (cz_nm mX12_by) ∈ cz_T := bq40.2.2.2.1
theorem lk13_133 : Cond.methodLink (cz_on 13) 133 (cz_nm mX10_nights) ∈ cz_T := bq24.2.2.2.2.2.2.2.2.2.2.2.2.2.2.2.2.1
theorem lk13_136 : Cond.methodLink (cz_on 13) 136 (cz_nm mX12_nights) ∈ cz_T := bq40.2.2.2.2.2.2.2.1
theorem lk13_137 : Cond.methodLink (cz_on 13) 137 (cz_nm mX10_call) ∈ cz_T := bq25.2.2.2.2.2.2.2.2.2.1
theorem lk13_141 : Cond.methodLink (cz_on 13) 141 (cz_nm mX12_call) ∈ cz_T := bq40.2.2.2.2.2.2.2.2.2.2.2.2.2.2.2.2.2.2.2.2.2.2.2.2.1
theorem lk13_142 : Cond.methodLink (cz_on 13) 142 (cz_nm mX10_calls) ∈ cz_T := bq26.1
theorem lk13_145 : Cond.methodLink (cz_on 13) 145 (cz_nm mX12_calls) ∈ cz_T := bq41.2.2.2.2.2.2.2.1
theorem lk13_146 : Cond.methodLink (cz_on 13) 146 (cz_nm mX10_cloud) ∈ cz_T := bq26.2.2.2.2.1
theorem lk13_150 : Cond.methodLink (cz_on 13) 150 (cz_nm mX12_cloud) ∈ cz_T := bq41.2.2.2.2.2.2.2.2.2.2.2.1
theorem lk13_151 : Cond.methodLink (cz_on 13) 151 (cz_nm mX10_draw) ∈ cz_T := bq26.2.2.2.2.2.2.2.2.2.1
theorem lk13_154 : Cond.methodLink (cz_on 13) 154 (cz_nm mX12_draw) ∈ cz_T := bq41.2.2.2.2.2.2.2.2.2.2.2.2.2.2.2.1
theorem lk13_155 : Cond.methodLink (cz_on 13) 155 (cz_nm mX10_lift) ∈ cz_T := bq26.2.2.2.2.2.2.2.2.2.2.2.2.2.1
theorem lk13_159 : Cond.methodLink (cz_on 13) 159 (cz_nm mX12_lift) ∈ cz_T := bq41.2.2.2.2.2.2.2.2.2.2.2.2.2.2.2.2.2.2.2.1
theorem lk13_160 : Cond.methodLink (cz_on 13) 160 (cz_nm mX10_seed) ∈ cz_T := bq26.2.2.2.2.2.2.2.2.2.2.2.2.2.2.2.2.2.1
theorem lk13_164 : Cond.methodLink (cz_on 13) 164 (cz_nm mX12_seed) ∈ cz_T := bq41.2.2.2.2.2.2.2.2.2.2.2.2.2.2.2.2.2.2.2.2.2.2.2.1
theorem lk13_165 : Cond.methodLink (cz_on 13) 165 (cz_nm mX10_undo) ∈ cz_T := bq26.2.2.2.2.2.2.2.2.2.2.2.2.2.2.2.2.2.2.2.2.2.1
theorem lk13_168 : Cond.methodLink (cz_on 13) 168 (cz_nm mX12_undo) ∈ cz_T := bq41.2.2.2.2.2.2.2.2.2.2.2.2.2.2.2.2.2.2.2.2.2.2.2.2.2.2.2.1
theorem lk13_169 : Cond.methodLink (cz_on 13) 169 (cz_nm mX10_mark) ∈ cz_T := bq26.2.2.2.2.2.2.2.2.2.2.2.2.2.2.2.2.2.2.2.2.2.2.2.2.2.2.2.2.2.1
theorem lk13_172 : Cond.methodLink (cz_on 13) 172 (cz_nm mX12_mark) ∈ cz_T := bq43.1
theorem lk13_173 : Cond.methodLink (cz_on 13) 173 (cz_nm mX10_back) ∈ cz_T := bq27.2.2.2.2.2.2.2.1
theorem lk13_176 : Cond.methodLink (cz_on 13) 176 (cz_nm mX12_back) ∈ cz_T := bq43.2.2.2.2.1
theorem lk13_177 : Cond.methodLink (cz_on 13) 177 (cz_nm mX10_event) ∈ cz_T := bq27.2.2.2.2.2.2.2.2.2.2.2.2.2.2.2.1
theorem lk13_180 : Cond.methodLink (cz_on 13) 180 (cz_nm mX12_event) ∈ cz_T := bq43.2.2.2.2.2.2.2.2.1
theorem lk13_186 : Cond.methodLink (cz_on 13) 186 (cz_nm mX12_led) ∈ cz_T := bq43.2.2.2.2.2.2.2.2.2.2.2.2.1
theorem lk13_187 : Cond.methodLink (cz_on 13) 187 (cz_nm mX10_size) ∈ cz_T := bq27.2.2.2.2.2.2.2.2.2.2.2.2.2.2.2.2.2.2.2.1
theorem lk13_190 : Cond.methodLink (cz_on 13) 190 (cz_nm mX12_size) ∈ cz_T := bq43.2.2.2.2.2.2.2.2.2.2.2.2.2.2.2.2.1
theorem lk13_191 : Cond.methodLink (cz_on 13) 191 (cz_nm mX10_trouble) ∈ cz_T := bq27.2.2.2.2.2.2.2.2.2.2.2.2.2.2.2.2.2.2.2.2.2.2.2.1
theorem lk13_194 : Cond.methodLink (cz_on 13) 194 (cz_nm mX12_trouble) ∈ cz_T := bq43.2.2.2.2.2.2.2.2.2.2.2.2.2.2.2.2.2.2.2.2.1
