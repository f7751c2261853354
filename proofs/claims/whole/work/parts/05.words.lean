abbrev mX0_clear : zt_M := (RX0, cX0_clear, 1, none, zt_rm 0, 0, 0)
abbrev mX0_push : zt_M := (RX0, cX0_push, 2, none, zt_rm 1, 0, 0)
abbrev mX0_pop : zt_M := (RX0, cX0_pop, 2, none, zt_rm 1, 0, 0)
abbrev mX1_clear : zt_M := (RX1, cX1_clear, 1, none, zt_rm 0, 0, 0)
abbrev mX1_copyFrom : zt_M := (RX1, cX1_copyFrom, 3, none, zt_rm 0, 0, 0)
abbrev mX1_addTramp : zt_M := (RX1, cX1_addTramp, 3, none, zt_rm 0, 0, 0)
abbrev mX1_packed : zt_M := (RX1, cX1_packed, 5, (some .long), zt_rm 0, 0, 0)
abbrev mX1_unpack : zt_M := (RX1, cX1_unpack, 5, none, zt_rm 0, 0, 0)
abbrev mX1_has : zt_M := (RX1, cX1_has, 2, (some .boolean), zt_rm 0, 0, 0)
abbrev mX1_isHummock : zt_M := (RX1, cX1_isHummock, 2, (some .boolean), zt_rm 0, 0, 0)
abbrev mX1_hasWalked : zt_M := (RX1, cX1_hasWalked, 2, (some .boolean), zt_rm 0, 0, 0)
abbrev mX1_speedOf : zt_M := (RX1, cX1_speedOf, 2, (some .int), zt_rm 0, 0, 0)
abbrev mX1_hummocks : zt_M := (RX1, cX1_hummocks, 3, (some .int), zt_rm 1, 0, 0)
abbrev mX1_trampsAt : zt_M := (RX1, cX1_trampsAt, 4, (some .int), zt_rm 0, 0, 0)
abbrev mX1_knownAt : zt_M := (RX1, cX1_knownAt, 4, (some .int), zt_rm 0, 0, 0)
abbrev mX1_knownByAny : zt_M := (RX1, cX1_knownByAny, 3, (some .int), zt_rm 0, 0, 0)
abbrev mX1_howManyKnow : zt_M := (RX1, cX1_howManyKnow, 4, (some .int), zt_rm 0, 0, 0)
abbrev mX1_allThatIsKnown : zt_M := (RX1, cX1_allThatIsKnown, 3, (some .int), zt_rm 1, 0, 0)
abbrev mX1_passNight : zt_M := (RX1, cX1_passNight, 5, none, zt_rm 2, 0, 0)
abbrev mX1_lieUp : zt_M := (RX1, cX1_lieUp, 7, none, zt_rm 1, 0, 0)
abbrev mX1_mayGo : zt_M := (RX1, cX1_mayGo, 4, (some .boolean), zt_rm 1, 0, 0)
abbrev mX1_goTo : zt_M := (RX1, cX1_goTo, 3, none, zt_rm 0, 0, 0)
abbrev mX1_goesIfItMay : zt_M := (RX1, cX1_goesIfItMay, 3, (some .boolean), zt_rm 2, 0, 0)
abbrev mX1_mayHear : zt_M := (RX1, cX1_mayHear, 3, (some .boolean), zt_rm 1, 0, 0)
abbrev mX1_hear : zt_M := (RX1, cX1_hear, 3, none, zt_rm 0, 0, 0)
abbrev mX1_hearsIfItMay : zt_M := (RX1, cX1_hearsIfItMay, 3, (some .boolean), zt_rm 2, 0, 0)
abbrev mX1_mayBathe : zt_M := (RX1, cX1_mayBathe, 2, (some .boolean), zt_rm 1, 0, 0)
abbrev mX1_bathe : zt_M := (RX1, cX1_bathe, 2, none, zt_rm 0, 0, 0)
abbrev mX1_bathesIfItMay : zt_M := (RX1, cX1_bathesIfItMay, 2, (some .boolean), zt_rm 2, 0, 0)
abbrev mX2_play : zt_M := (RX2, cX2_play, 8, none, zt_rm 4, 0, 0)
abbrev mX2_goToKiln : zt_M := (RX2, cX2_goToKiln, 4, none, zt_rm 3, 0, 0)
abbrev mX2_gainOf : zt_M := (RX2, cX2_gainOf, 4, (some .int), zt_rm 1, 0, 0)
abbrev mX2_isAtRest : zt_M := (RX2, cX2_isAtRest, 5, (some .boolean), zt_rm 0, 0, 0)
abbrev mX3_clear : zt_M := (RX3, cX3_clear, 1, none, zt_rm 0, 0, 0)
abbrev mX3_copyFrom : zt_M := (RX3, cX3_copyFrom, 2, none, zt_rm 1, 0, 0)
abbrev mX3_addKiln : zt_M := (RX3, cX3_addKiln, 2, none, zt_rm 0, 0, 0)
abbrev mX3_addLayer : zt_M := (RX3, cX3_addLayer, 3, (some .boolean), zt_rm 2, 0, 0)
abbrev mX3_has : zt_M := (RX3, cX3_has, 2, (some .boolean), zt_rm 0, 0, 0)
abbrev mX3_kilnAt : zt_M := (RX3, cX3_kilnAt, 3, (some .int), zt_rm 0, 0, 0)
abbrev mX3_layerOf : zt_M := (RX3, cX3_layerOf, 3, (some .int), zt_rm 0, 0, 0)
abbrev mX3_bitsOf : zt_M := (RX3, cX3_bitsOf, 4, (some .int), zt_rm 1, 0, 0)
abbrev mX3_figuresOf : zt_M := (RX3, cX3_figuresOf, 4, (some .int), zt_rm 1, 0, 0)
abbrev mX3_bitsOfAll : zt_M := (RX3, cX3_bitsOfAll, 3, (some .int), zt_rm 2, 0, 0)
abbrev mX3_weightOf : zt_M := (RX3, cX3_weightOf, 5, (some .int), zt_rm 0, 0, 0)
abbrev mX4_look : zt_M := (RX4, cX4_look, 4, none, zt_rm 3, 0, 0)
abbrev mX4_waysTo : zt_M := (RX4, cX4_waysTo, 5, (some .int), zt_rm 1, 0, 0)
abbrev mX4_canFollow : zt_M := (RX4, cX4_canFollow, 3, (some .boolean), zt_rm 0, 0, 0)
abbrev mX4_howMany : zt_M := (RX4, cX4_howMany, 1, (some .int), zt_rm 0, 0, 0)
abbrev mX4_least : zt_M := (RX4, cX4_least, 5, (some .int), zt_rm 2, 0, 0)
abbrev mX4_leastAfter : zt_M := (RX4, cX4_leastAfter, 3, (some .int), zt_rm 1, 0, 0)
abbrev mX5_read : zt_M := (RX5, cX5_read, 3, (some .int), zt_rm 5, 0, 0)
abbrev mX5_takes : zt_M := (RX5, cX5_takes, 2, (some .boolean), zt_rm 4, 0, 0)
abbrev mX5_beginsPart : zt_M := (RX5, cX5_beginsPart, 2, (some .boolean), zt_rm 0, 0, 0)
abbrev mX5_takesKilnPlace : zt_M := (RX5, cX5_takesKilnPlace, 2, (some .boolean), zt_rm 1, 0, 0)
abbrev mX5_takesLayer : zt_M := (RX5, cX5_takesLayer, 2, (some .boolean), zt_rm 3, 0, 0)
abbrev mX5_takesTrampKind : zt_M := (RX5, cX5_takesTrampKind, 2, (some .boolean), zt_rm 1, 0, 0)
abbrev mX6_add : zt_M := (RX6, cX6_add, 2, none, zt_rm 0, 0, 0)
abbrev mX7_finds : zt_M := (RX7, cX7_finds, 6, (some .boolean), zt_rm 4, 0, 0)
abbrev mX7_findsFrom : zt_M := (RX7, cX7_findsFrom, 7, (some .boolean), zt_rm 3, 0, 0)
abbrev mX7_addNext : zt_M := (RX7, cX7_addNext, 5, none, zt_rm 0, 0, 0)
abbrev mX7_turnToNext : zt_M := (RX7, cX7_turnToNext, 1, none, zt_rm 1, 0, 0)
abbrev mX8_clear : zt_M := (RX8, cX8_clear, 2, none, zt_rm 0, 0, 0)
abbrev mX8_holds : zt_M := (RX8, cX8_holds, 2, (some .boolean), zt_rm 1, 0, 0)
abbrev mX8_put : zt_M := (RX8, cX8_put, 3, none, zt_rm 1, 0, 0)
abbrev mX8_bringBack : zt_M := (RX8, cX8_bringBack, 3, none, zt_rm 2, 0, 0)
abbrev mX9_clear : zt_M := (RX9, cX9_clear, 1, none, zt_rm 0, 0, 0)
abbrev mX9_add : zt_M := (RX9, cX9_add, 3, none, zt_rm 0, 0, 0)
abbrev mX9_look : zt_M := (RX9, cX9_look, 5, none, zt_rm 2, 0, 0)
abbrev mX9_fits : zt_M := (RX9, cX9_fits, 2, (some .boolean), zt_rm 0, 0, 0)
abbrev mX9_takenIn : zt_M := (RX9, cX9_takenIn, 5, (some .int), zt_rm 1, 0, 0)
abbrev mX9_noteFound : zt_M := (RX9, cX9_noteFound, 2, none, zt_rm 0, 0, 0)
abbrev mX10_write : zt_M := (RX10, cX10_write, 2, (some .int), zt_rm 1, 0, 0)
abbrev mX10_wipe : zt_M := (RX10, cX10_wipe, 2, (some .int), zt_rm 0, 0, 0)
abbrev mX10_fault : zt_M := (RX10, cX10_fault, 1, (some .int), zt_rm 6, 0, 0)
abbrev mX10_hill : zt_M := (RX10, cX10_hill, 1, (some .int), zt_rm 6, 0, 0)
abbrev mX10_kiln : zt_M := (RX10, cX10_kiln, 3, (some .int), zt_rm 2, 0, 0)
abbrev mX10_tramp : zt_M := (RX10, cX10_tramp, 3, (some .int), zt_rm 1, 0, 0)
abbrev mX10_at : zt_M := (RX10, cX10_at, 2, (some .int), zt_rm 1, 0, 0)
abbrev mX10_night : zt_M := (RX10, cX10_night, 1, (some .int), zt_rm 3, 0, 0)
abbrev mX10_walk : zt_M := (RX10, cX10_walk, 4, (some .int), zt_rm 2, 0, 0)
abbrev mX10_tell : zt_M := (RX10, cX10_tell, 3, (some .int), zt_rm 2, 0, 0)
abbrev mX10_wash : zt_M := (RX10, cX10_wash, 3, (some .int), zt_rm 2, 0, 0)
abbrev mX10_undo : zt_M := (RX10, cX10_undo, 1, (some .int), zt_rm 2, 0, 0)
abbrev mX10_later : zt_M := (RX10, cX10_later, 5, (some .int), zt_rm 3, 0, 0)
abbrev mX10_hummock : zt_M := (RX10, cX10_hummock, 3, (some .int), zt_rm 3, 0, 0)
abbrev mX10_soon : zt_M := (RX10, cX10_soon, 4, (some .int), zt_rm 5, 0, 0)
abbrev mX10_beneath : zt_M := (RX10, cX10_beneath, 2, (some .int), zt_rm 4, 0, 0)
abbrev mX10_judge : zt_M := (RX10, cX10_judge, 6, (some .int), zt_rm 4, 0, 0)
abbrev mX10_canBe : zt_M := (RX10, cX10_canBe, 4, (some .boolean), zt_rm 3, 0, 0)
abbrev mX10_knew : zt_M := (RX10, cX10_knew, 3, (some .int), zt_rm 1, 0, 0)
abbrev mX10_unknew : zt_M := (RX10, cX10_unknew, 2, (some .int), zt_rm 1, 0, 0)
abbrev mX10_lay : zt_M := (RX10, cX10_lay, 2, (some .int), zt_rm 3, 0, 0)
abbrev mX10_share : zt_M := (RX10, cX10_share, 6, (some .int), zt_rm 2, 0, 0)
abbrev mX10_rests : zt_M := (RX10, cX10_rests, 4, (some .int), zt_rm 5, 0, 0)
abbrev mX10_cold : zt_M := (RX10, cX10_cold, 9, (some .int), zt_rm 3, 0, 0)
abbrev mX10_seed : zt_M := (RX10, cX10_seed, 5, (some .long), zt_rm 0, 0, 0)
abbrev mX10_years : zt_M := (RX10, cX10_years, 4, (some .int), zt_rm 4, 0, 0)
abbrev mX10_passYear : zt_M := (RX10, cX10_passYear, 2, none, zt_rm 3, 0, 0)
abbrev mX10_keep : zt_M := (RX10, cX10_keep, 2, (some .int), zt_rm 2, 0, 0)
abbrev mX10_again : zt_M := (RX10, cX10_again, 2, (some .int), zt_rm 3, 0, 0)
abbrev mX10_count : zt_M := (RX10, cX10_count, 2, (some .int), zt_rm 3, 0, 0)
abbrev mX10_isPlace : zt_M := (RX10, cX10_isPlace, 1, (some .boolean), zt_rm 0, 0, 0)
abbrev mX10_isSlot : zt_M := (RX10, cX10_isSlot, 1, (some .boolean), zt_rm 0, 0, 0)
abbrev mX10_isLayerFigure : zt_M := (RX10, cX10_isLayerFigure, 1, (some .boolean), zt_rm 0, 0, 0)
abbrev mX10_isFirstOrSecond : zt_M := (RX10, cX10_isFirstOrSecond, 1, (some .boolean), zt_rm 0, 0, 0)
abbrev mX10_appetiteOf : zt_M := (RX10, cX10_appetiteOf, 1, (some .int), zt_rm 0, 0, 0)
abbrev mX10_fractionPart : zt_M := (RX10, cX10_fractionPart, 4, (some .int), zt_rm 1, 0, 0)
abbrev mX10_commonDivisor : zt_M := (RX10, cX10_commonDivisor, 6, (some .int), zt_rm 0, 0, 0)
abbrev mX11_in : zt_M := (RX11, cX11_in, 6, (some .boolean), zt_rm 0, 0, 0)
abbrev mX11_has : zt_M := (RX11, cX11_has, 2, (some .boolean), zt_rm 0, 0, 0)
abbrev mX11_ones : zt_M := (RX11, cX11_ones, 3, (some .int), zt_rm 0, 0, 0)
abbrev mX11_write : zt_M := (RX11, cX11_write, 2, (some .int), zt_rm 1, 0, 0)
abbrev mX11_wipe : zt_M := (RX11, cX11_wipe, 2, (some .int), zt_rm 0, 0, 0)
abbrev mX11_nextOf : zt_M := (RX11, cX11_nextOf, 6, (some .int), zt_rm 1, 0, 0)
abbrev mX11_readText : zt_M := (RX11, cX11_readText, 1, (some .int), zt_rm 4, 0, 0)
abbrev mX11_readPart : zt_M := (RX11, cX11_readPart, 2, none, zt_rm 3, 0, 0)
abbrev mX11_readOne : zt_M := (RX11, cX11_readOne, 5, none, zt_rm 2, 0, 0)
abbrev mX11_fault : zt_M := (RX11, cX11_fault, 1, (some .int), zt_rm 5, 0, 0)
abbrev mX11_hill : zt_M := (RX11, cX11_hill, 2, (some .int), zt_rm 5, 0, 0)
abbrev mX11_isKiln : zt_M := (RX11, cX11_isKiln, 2, (some .boolean), zt_rm 1, 0, 0)
abbrev mX11_isTramp : zt_M := (RX11, cX11_isTramp, 2, (some .boolean), zt_rm 1, 0, 0)
abbrev mX11_isPlace : zt_M := (RX11, cX11_isPlace, 1, (some .boolean), zt_rm 1, 0, 0)
abbrev mX11_kilnOf : zt_M := (RX11, cX11_kilnOf, 3, (some .int), zt_rm 0, 0, 0)
abbrev mX11_setOf : zt_M := (RX11, cX11_setOf, 4, (some .int), zt_rm 0, 0, 0)
abbrev mX11_isHummock : zt_M := (RX11, cX11_isHummock, 3, (some .boolean), zt_rm 0, 0, 0)
abbrev mX11_speedOf : zt_M := (RX11, cX11_speedOf, 3, (some .int), zt_rm 0, 0, 0)
abbrev mX11_takeOn : zt_M := (RX11, cX11_takeOn, 8, none, zt_rm 1, 0, 0)
abbrev mX11_knownAt : zt_M := (RX11, cX11_knownAt, 5, (some .int), zt_rm 0, 0, 0)
abbrev mX11_passOn : zt_M := (RX11, cX11_passOn, 4, none, zt_rm 2, 0, 0)
abbrev mX11_far : zt_M := (RX11, cX11_far, 2, (some .int), zt_rm 0, 0, 0)
abbrev mX11_canWalk : zt_M := (RX11, cX11_canWalk, 5, (some .boolean), zt_rm 2, 0, 0)
abbrev mX11_walkOn : zt_M := (RX11, cX11_walkOn, 4, none, zt_rm 0, 0, 0)
abbrev mX11_canTell : zt_M := (RX11, cX11_canTell, 4, (some .boolean), zt_rm 2, 0, 0)
abbrev mX11_tellOn : zt_M := (RX11, cX11_tellOn, 4, none, zt_rm 0, 0, 0)
abbrev mX11_washOn : zt_M := (RX11, cX11_washOn, 3, none, zt_rm 0, 0, 0)
abbrev mX11_hummocksOn : zt_M := (RX11, cX11_hummocksOn, 4, (some .int), zt_rm 1, 0, 0)
abbrev mX11_figuresOf : zt_M := (RX11, cX11_figuresOf, 4, (some .int), zt_rm 0, 0, 0)
abbrev mX11_trampsAt : zt_M := (RX11, cX11_trampsAt, 4, (some .int), zt_rm 0, 0, 0)
abbrev mX11_kiln : zt_M := (RX11, cX11_kiln, 3, (some .int), zt_rm 2, 0, 0)
abbrev mX11_tramp : zt_M := (RX11, cX11_tramp, 3, (some .int), zt_rm 2, 0, 0)
abbrev mX11_at : zt_M := (RX11, cX11_at, 2, (some .int), zt_rm 2, 0, 0)
abbrev mX11_keepAct : zt_M := (RX11, cX11_keepAct, 2, none, zt_rm 0, 0, 0)
abbrev mX11_night : zt_M := (RX11, cX11_night, 1, (some .int), zt_rm 3, 0, 0)
abbrev mX11_walk : zt_M := (RX11, cX11_walk, 4, (some .int), zt_rm 3, 0, 0)
abbrev mX11_tell : zt_M := (RX11, cX11_tell, 3, (some .int), zt_rm 3, 0, 0)
abbrev mX11_wash : zt_M := (RX11, cX11_wash, 3, (some .int), zt_rm 2, 0, 0)
abbrev mX11_undo : zt_M := (RX11, cX11_undo, 2, (some .int), zt_rm 0, 0, 0)
abbrev mX11_layTrial : zt_M := (RX11, cX11_layTrial, 2, none, zt_rm 0, 0, 0)
abbrev mX11_later : zt_M := (RX11, cX11_later, 5, (some .int), zt_rm 3, 0, 0)
abbrev mX11_hummock : zt_M := (RX11, cX11_hummock, 3, (some .int), zt_rm 3, 0, 0)
abbrev mX11_tenTo : zt_M := (RX11, cX11_tenTo, 3, (some .int), zt_rm 0, 0, 0)
abbrev mX11_knowsBy : zt_M := (RX11, cX11_knowsBy, 7, (some .boolean), zt_rm 3, 0, 0)
abbrev mX11_soon : zt_M := (RX11, cX11_soon, 6, (some .int), zt_rm 4, 0, 0)
abbrev mX11_allLayers : zt_M := (RX11, cX11_allLayers, 3, (some .int), zt_rm 1, 0, 0)
abbrev mX11_isOrder : zt_M := (RX11, cX11_isOrder, 9, (some .boolean), zt_rm 2, 0, 0)
abbrev mX11_countOrders : zt_M := (RX11, cX11_countOrders, 6, none, zt_rm 3, 0, 0)
abbrev mX11_orderOf : zt_M := (RX11, cX11_orderOf, 12, (some .int), zt_rm 1, 0, 0)
abbrev mX11_beneath : zt_M := (RX11, cX11_beneath, 2, (some .int), zt_rm 4, 0, 0)
abbrev mX11_tryThing : zt_M := (RX11, cX11_tryThing, 7, (some .boolean), zt_rm 3, 0, 0)
abbrev mX11_thousandTo : zt_M := (RX11, cX11_thousandTo, 4, (some .long), zt_rm 0, 0, 0)
abbrev mX11_judge : zt_M := (RX11, cX11_judge, 6, (some .int), zt_rm 4, 0, 0)
abbrev mX11_knew : zt_M := (RX11, cX11_knew, 3, (some .int), zt_rm 1, 0, 0)
abbrev mX11_unknew : zt_M := (RX11, cX11_unknew, 2, (some .int), zt_rm 0, 0, 0)
abbrev mX11_upperOf : zt_M := (RX11, cX11_upperOf, 5, (some .int), zt_rm 0, 0, 0)
abbrev mX11_lay : zt_M := (RX11, cX11_lay, 10, (some .int), zt_rm 1, 0, 0)
abbrev mX11_factorial : zt_M := (RX11, cX11_factorial, 3, (some .int), zt_rm 0, 0, 0)
abbrev mX11_common : zt_M := (RX11, cX11_common, 5, (some .int), zt_rm 0, 0, 0)
abbrev mX11_knownBy : zt_M := (RX11, cX11_knownBy, 4, (some .int), zt_rm 1, 0, 0)
abbrev mX11_share : zt_M := (RX11, cX11_share, 6, (some .int), zt_rm 2, 0, 0)
abbrev mX11_goTo : zt_M := (RX11, cX11_goTo, 3, none, zt_rm 3, 0, 0)
abbrev mX11_gain : zt_M := (RX11, cX11_gain, 6, (some .int), zt_rm 4, 0, 0)
abbrev mX11_isRest : zt_M := (RX11, cX11_isRest, 7, (some .boolean), zt_rm 5, 0, 0)
abbrev mX11_rests : zt_M := (RX11, cX11_rests, 7, (some .int), zt_rm 6, 0, 0)
abbrev mX11_cold : zt_M := (RX11, cX11_cold, 10, (some .int), zt_rm 3, 0, 0)
abbrev mX11_seed : zt_M := (RX11, cX11_seed, 5, (some .long), zt_rm 0, 0, 0)
abbrev mX11_knownOfAll : zt_M := (RX11, cX11_knownOfAll, 3, (some .int), zt_rm 1, 0, 0)
abbrev mX11_years : zt_M := (RX11, cX11_years, 5, (some .int), zt_rm 4, 0, 0)
abbrev mX11_keep : zt_M := (RX11, cX11_keep, 3, (some .int), zt_rm 1, 0, 0)
abbrev mX11_again : zt_M := (RX11, cX11_again, 3, (some .int), zt_rm 1, 0, 0)
abbrev mX11_count : zt_M := (RX11, cX11_count, 2, (some .int), zt_rm 2, 0, 0)
abbrev mJ6_bitCount_0f7a4 : zt_M := (RJ6, cJ6_bitCount_0f7a4, 1, (some .int), zt_rm 0, 0, 0)
abbrev mL_law : zt_M := (RL, cL_law, 4, ret, room_1, 63, 2136)
theorem lo_0 : zl_lay[0]? = some (.inl (10, [.inr 1, .inr 3, .inr 13, .inr 17, .inr 22, .inr 27, .inr 30, .inr 34, .inr 39, .inr 42, .inr 43, .inl 1])) := rfl
theorem lo_1 : zl_lay[1]? = some (.inl (6, [.inr 2, .inl 0])) := rfl
theorem lo_2 : zl_lay[2]? = some (.inr (0, 48)) := rfl
theorem lo_3 : zl_lay[3]? = some (.inl (5, [.inr 4, .inr 8, .inl 0, .inl 0])) := rfl
theorem lo_4 : zl_lay[4]? = some (.inl (3, [.inr 5, .inr 6, .inr 7, .inl 0])) := rfl
theorem lo_5 : zl_lay[5]? = some (.inr (0, 4)) := rfl
theorem lo_6 : zl_lay[6]? = some (.inr (0, 4)) := rfl
theorem lo_7 : zl_lay[7]? = some (.inr (0, 16)) := rfl
theorem lo_8 : zl_lay[8]? = some (.inl (1, [.inr 9, .inr 10, .inr 11, .inr 12, .inl 0, .inl 0, .inl 0])) := rfl
theorem lo_9 : zl_lay[9]? = some (.inr (0, 4)) := rfl
theorem lo_10 : zl_lay[10]? = some (.inr (0, 4)) := rfl
theorem lo_11 : zl_lay[11]? = some (.inr (0, 4)) := rfl
theorem lo_12 : zl_lay[12]? = some (.inr (0, 4)) := rfl
theorem lo_13 : zl_lay[13]? = some (.inl (3, [.inr 14, .inr 15, .inr 16, .inl 0])) := rfl
theorem lo_14 : zl_lay[14]? = some (.inr (0, 4)) := rfl
theorem lo_15 : zl_lay[15]? = some (.inr (0, 4)) := rfl
theorem lo_16 : zl_lay[16]? = some (.inr (0, 16)) := rfl
theorem lo_17 : zl_lay[17]? = some (.inl (1, [.inr 18, .inr 19, .inr 20, .inr 21, .inl 0, .inl 0, .inl 0])) := rfl
theorem lo_18 : zl_lay[18]? = some (.inr (0, 4)) := rfl
theorem lo_19 : zl_lay[19]? = some (.inr (0, 4)) := rfl
theorem lo_20 : zl_lay[20]? = some (.inr (0, 4)) := rfl
theorem lo_21 : zl_lay[21]? = some (.inr (0, 4)) := rfl
theorem lo_22 : zl_lay[22]? = some (.inl (1, [.inr 23, .inr 24, .inr 25, .inr 26, .inl 0, .inl 0, .inl 0])) := rfl
theorem lo_23 : zl_lay[23]? = some (.inr (0, 4)) := rfl
theorem lo_24 : zl_lay[24]? = some (.inr (0, 4)) := rfl
theorem lo_25 : zl_lay[25]? = some (.inr (0, 4)) := rfl
theorem lo_26 : zl_lay[26]? = some (.inr (0, 4)) := rfl
theorem lo_27 : zl_lay[27]? = some (.inl (0, [.inr 28, .inr 29, .inl 0])) := rfl
theorem lo_28 : zl_lay[28]? = some (.inr (1, 14)) := rfl
theorem lo_29 : zl_lay[29]? = some (.inr (0, 14)) := rfl
theorem lo_30 : zl_lay[30]? = some (.inl (8, [.inr 31, .inr 32, .inr 33])) := rfl
theorem lo_31 : zl_lay[31]? = some (.inr (1, 2)) := rfl
theorem lo_32 : zl_lay[32]? = some (.inr (0, 2)) := rfl
theorem lo_33 : zl_lay[33]? = some (.inr (2, 2)) := rfl
theorem lo_34 : zl_lay[34]? = some (.inl (7, [.inr 35, .inr 36, .inr 37, .inr 38, .inl 0, .inl 0, .inl 0, .inl 0])) := rfl
theorem lo_35 : zl_lay[35]? = some (.inr (1, 343)) := rfl
theorem lo_36 : zl_lay[36]? = some (.inr (0, 343)) := rfl
theorem lo_37 : zl_lay[37]? = some (.inr (1, 343)) := rfl
theorem lo_38 : zl_lay[38]? = some (.inr (0, 343)) := rfl
theorem lo_39 : zl_lay[39]? = some (.inl (4, [.inr 40, .inr 41, .inl 0])) := rfl
theorem lo_40 : zl_lay[40]? = some (.inr (0, 6)) := rfl
theorem lo_41 : zl_lay[41]? = some (.inr (0, 64)) := rfl
theorem lo_42 : zl_lay[42]? = some (.inl (9, [.inl 0, .inl 0, .inl 0, .inl 0, .inl 0])) := rfl
theorem lo_43 : zl_lay[43]? = some (.inl (2, [.inr 44, .inr 45, .inl 0, .inl 0])) := rfl
theorem lo_44 : zl_lay[44]? = some (.inr (0, 16)) := rfl
theorem lo_45 : zl_lay[45]? = some (.inr (0, 16)) := rfl
theorem lo_46 : zl_lay[46]? = some (.inl (11, [.inl 0, .inl 0, .inr 47, .inr 48, .inr 49, .inr 50, .inr 51, .inr 52, .inr 53, .inr 54, .inr 55, .inl 0, .inl 0, .inl 0, .inr 56, .inl 0, .inl 0, .inl 0, .inl 0, .inl 0, .inl 0, .inr 57, .inr 58, .inl 0, .inl 0, .inl 0, .inr 59, .inr 60, .inl 1, .inr 61, .inr 62])) := rfl
theorem lo_47 : zl_lay[47]? = some (.inr (0, 4)) := rfl
theorem lo_48 : zl_lay[48]? = some (.inr (0, 4)) := rfl
theorem lo_49 : zl_lay[49]? = some (.inr (0, 16)) := rfl
theorem lo_50 : zl_lay[50]? = some (.inr (0, 4)) := rfl
theorem lo_51 : zl_lay[51]? = some (.inr (0, 28)) := rfl
theorem lo_52 : zl_lay[52]? = some (.inr (0, 4)) := rfl
theorem lo_53 : zl_lay[53]? = some (.inr (0, 4)) := rfl
theorem lo_54 : zl_lay[54]? = some (.inr (0, 16)) := rfl
theorem lo_55 : zl_lay[55]? = some (.inr (0, 8)) := rfl
theorem lo_56 : zl_lay[56]? = some (.inr (0, 48)) := rfl
theorem lo_57 : zl_lay[57]? = some (.inr (0, 196)) := rfl
theorem lo_58 : zl_lay[58]? = some (.inr (0, 6)) := rfl
theorem lo_59 : zl_lay[59]? = some (.inr (0, 6)) := rfl
theorem lo_60 : zl_lay[60]? = some (.inr (0, 6)) := rfl
theorem lo_61 : zl_lay[61]? = some (.inr (2, 2)) := rfl
theorem lo_62 : zl_lay[62]? = some (.inr (0, 28)) := rfl
theorem inqX0 : ∀ w ∈ u_ws RX0 TX0 3, w ∈ zt_tb := zt_ins _ [199, 201, 203] (by decide +kernel) (by decide +kernel)
theorem inqX1 : ∀ w ∈ u_ws RX1 TX1 7, w ∈ zt_tb := zt_ins _ [155, 157, 159, 161, 163, 165, 167] (by decide +kernel) (by decide +kernel)
theorem inqX2 : ∀ w ∈ u_ws RX2 TX2 4, w ∈ zt_tb := zt_ins _ [310, 312, 314, 316] (by decide +kernel) (by decide +kernel)
theorem inqX3 : ∀ w ∈ u_ws RX3 TX3 4, w ∈ zt_tb := zt_ins _ [119, 121, 123, 125] (by decide +kernel) (by decide +kernel)
theorem inqX4 : ∀ w ∈ u_ws RX4 TX4 3, w ∈ zt_tb := zt_ins _ [266, 268, 270] (by decide +kernel) (by decide +kernel)
theorem inqX5 : ∀ w ∈ u_ws RX5 TX5 4, w ∈ zt_tb := zt_ins _ [176, 178, 180, 182] (by decide +kernel) (by decide +kernel)
theorem inqX6 : ∀ w ∈ u_ws RX6 TX6 2, w ∈ zt_tb := zt_ins _ [87, 89] (by decide +kernel) (by decide +kernel)
theorem inqX7 : ∀ w ∈ u_ws RX7 TX7 8, w ∈ zt_tb := zt_ins _ [240, 242, 244, 246, 248, 250, 252, 254] (by decide +kernel) (by decide +kernel)
theorem inqX8 : ∀ w ∈ u_ws RX8 TX8 3, w ∈ zt_tb := zt_ins _ [216, 218, 220] (by decide +kernel) (by decide +kernel)
theorem inqX9 : ∀ w ∈ u_ws RX9 TX9 5, w ∈ zt_tb := zt_ins _ [287, 289, 291, 293, 295] (by decide +kernel) (by decide +kernel)
theorem inqX10 : ∀ w ∈ u_ws RX10 TX10 12, w ∈ zt_tb := zt_ins _ [331, 333, 335, 337, 339, 341, 343, 345, 347, 349, 351, 353] (by decide +kernel) (by decide +kernel)
theorem inqX11 : ∀ w ∈ u_ws RX11 TX11 31, w ∈ zt_tb := zt_ins _ [878, 880, 882, 884, 886, 888, 890, 892, 894, 896, 898, 900, 902, 904, 906, 908, 910, 912, 914, 916, 918, 920, 922, 924, 926, 928, 930, 932, 934, 936, 938] (by decide +kernel) (by decide +kernel)
theorem fX6_9 : zt_F RX6 9 6 0 := ⟨RX6, TX6, 2, rfl, inqX6, by decide, zt_ins [_] [82] (by decide +kernel) (by decide +kernel) _ (List.mem_singleton.mpr rfl)⟩
theorem fX5_41 : zt_F RX5 41 6 0 := ⟨RX6, TX6, 2, rfl, inqX6, by decide, zt_ins [_] [83] (by decide +kernel) (by decide +kernel) _ (List.mem_singleton.mpr rfl)⟩
theorem fX6_15 : zt_F RX6 15 6 1 := ⟨RX6, TX6, 2, rfl, inqX6, by decide, zt_ins [_] [84] (by decide +kernel) (by decide +kernel) _ (List.mem_singleton.mpr rfl)⟩
theorem fX10_86 : zt_F RX10 86 6 1 := ⟨RX6, TX6, 2, rfl, inqX6, by decide, zt_ins [_] [85] (by decide +kernel) (by decide +kernel) _ (List.mem_singleton.mpr rfl)⟩
theorem fX5_36 : zt_F RX5 36 6 1 := ⟨RX6, TX6, 2, rfl, inqX6, by decide, zt_ins [_] [86] (by decide +kernel) (by decide +kernel) _ (List.mem_singleton.mpr rfl)⟩
theorem fX3_9 : zt_F RX3 9 3 0 := ⟨RX3, TX3, 4, rfl, inqX3, by decide, zt_ins [_] [105] (by decide +kernel) (by decide +kernel) _ (List.mem_singleton.mpr rfl)⟩
theorem fX2_53 : zt_F RX2 53 3 0 := ⟨RX3, TX3, 4, rfl, inqX3, by decide, zt_ins [_] [106] (by decide +kernel) (by decide +kernel) _ (List.mem_singleton.mpr rfl)⟩
theorem fX10_121 : zt_F RX10 121 3 0 := ⟨RX3, TX3, 4, rfl, inqX3, by decide, zt_ins [_] [107] (by decide +kernel) (by decide +kernel) _ (List.mem_singleton.mpr rfl)⟩
theorem fX3_15 : zt_F RX3 15 3 1 := ⟨RX3, TX3, 4, rfl, inqX3, by decide, zt_ins [_] [108] (by decide +kernel) (by decide +kernel) _ (List.mem_singleton.mpr rfl)⟩
theorem fX4_31 : zt_F RX4 31 3 1 := ⟨RX3, TX3, 4, rfl, inqX3, by decide, zt_ins [_] [109] (by decide +kernel) (by decide +kernel) _ (List.mem_singleton.mpr rfl)⟩
theorem fX9_48 : zt_F RX9 48 3 1 := ⟨RX3, TX3, 4, rfl, inqX3, by decide, zt_ins [_] [110] (by decide +kernel) (by decide +kernel) _ (List.mem_singleton.mpr rfl)⟩
theorem fX10_125 : zt_F RX10 125 3 1 := ⟨RX3, TX3, 4, rfl, inqX3, by decide, zt_ins [_] [111] (by decide +kernel) (by decide +kernel) _ (List.mem_singleton.mpr rfl)⟩
theorem fX1_62 : zt_F RX1 62 3 1 := ⟨RX3, TX3, 4, rfl, inqX3, by decide, zt_ins [_] [112] (by decide +kernel) (by decide +kernel) _ (List.mem_singleton.mpr rfl)⟩
theorem fX3_18 : zt_F RX3 18 3 2 := ⟨RX3, TX3, 4, rfl, inqX3, by decide, zt_ins [_] [113] (by decide +kernel) (by decide +kernel) _ (List.mem_singleton.mpr rfl)⟩
theorem fX3_21 : zt_F RX3 21 3 3 := ⟨RX3, TX3, 4, rfl, inqX3, by decide, zt_ins [_] [114] (by decide +kernel) (by decide +kernel) _ (List.mem_singleton.mpr rfl)⟩
theorem fX4_28 : zt_F RX4 28 3 3 := ⟨RX3, TX3, 4, rfl, inqX3, by decide, zt_ins [_] [115] (by decide +kernel) (by decide +kernel) _ (List.mem_singleton.mpr rfl)⟩
theorem fX5_64 : zt_F RX5 64 3 3 := ⟨RX3, TX3, 4, rfl, inqX3, by decide, zt_ins [_] [116] (by decide +kernel) (by decide +kernel) _ (List.mem_singleton.mpr rfl)⟩
theorem fX9_27 : zt_F RX9 27 3 3 := ⟨RX3, TX3, 4, rfl, inqX3, by decide, zt_ins [_] [117] (by decide +kernel) (by decide +kernel) _ (List.mem_singleton.mpr rfl)⟩
theorem fX10_111 : zt_F RX10 111 3 3 := ⟨RX3, TX3, 4, rfl, inqX3, by decide, zt_ins [_] [118] (by decide +kernel) (by decide +kernel) _ (List.mem_singleton.mpr rfl)⟩
theorem fX1_9 : zt_F RX1 9 1 0 := ⟨RX1, TX1, 7, rfl, inqX1, by decide, zt_ins [_] [134] (by decide +kernel) (by decide +kernel) _ (List.mem_singleton.mpr rfl)⟩
theorem fX7_58 : zt_F RX7 58 1 0 := ⟨RX1, TX1, 7, rfl, inqX1, by decide, zt_ins [_] [135] (by decide +kernel) (by decide +kernel) _ (List.mem_singleton.mpr rfl)⟩
theorem fX2_68 : zt_F RX2 68 1 0 := ⟨RX1, TX1, 7, rfl, inqX1, by decide, zt_ins [_] [136] (by decide +kernel) (by decide +kernel) _ (List.mem_singleton.mpr rfl)⟩
theorem fX10_139 : zt_F RX10 139 1 0 := ⟨RX1, TX1, 7, rfl, inqX1, by decide, zt_ins [_] [137] (by decide +kernel) (by decide +kernel) _ (List.mem_singleton.mpr rfl)⟩
theorem fX1_15 : zt_F RX1 15 1 1 := ⟨RX1, TX1, 7, rfl, inqX1, by decide, zt_ins [_] [138] (by decide +kernel) (by decide +kernel) _ (List.mem_singleton.mpr rfl)⟩
theorem fX10_140 : zt_F RX10 140 1 1 := ⟨RX1, TX1, 7, rfl, inqX1, by decide, zt_ins [_] [139] (by decide +kernel) (by decide +kernel) _ (List.mem_singleton.mpr rfl)⟩
theorem fX1_18 : zt_F RX1 18 1 2 := ⟨RX1, TX1, 7, rfl, inqX1, by decide, zt_ins [_] [140] (by decide +kernel) (by decide +kernel) _ (List.mem_singleton.mpr rfl)⟩
theorem fX7_38 : zt_F RX7 38 1 2 := ⟨RX1, TX1, 7, rfl, inqX1, by decide, zt_ins [_] [141] (by decide +kernel) (by decide +kernel) _ (List.mem_singleton.mpr rfl)⟩
theorem fX2_59 : zt_F RX2 59 1 2 := ⟨RX1, TX1, 7, rfl, inqX1, by decide, zt_ins [_] [142] (by decide +kernel) (by decide +kernel) _ (List.mem_singleton.mpr rfl)⟩
theorem fX10_143 : zt_F RX10 143 1 2 := ⟨RX1, TX1, 7, rfl, inqX1, by decide, zt_ins [_] [143] (by decide +kernel) (by decide +kernel) _ (List.mem_singleton.mpr rfl)⟩
theorem fX1_21 : zt_F RX1 21 1 3 := ⟨RX1, TX1, 7, rfl, inqX1, by decide, zt_ins [_] [144] (by decide +kernel) (by decide +kernel) _ (List.mem_singleton.mpr rfl)⟩
theorem fX10_146 : zt_F RX10 146 1 3 := ⟨RX1, TX1, 7, rfl, inqX1, by decide, zt_ins [_] [145] (by decide +kernel) (by decide +kernel) _ (List.mem_singleton.mpr rfl)⟩
theorem fX1_24 : zt_F RX1 24 1 4 := ⟨RX1, TX1, 7, rfl, inqX1, by decide, zt_ins [_] [146] (by decide +kernel) (by decide +kernel) _ (List.mem_singleton.mpr rfl)⟩
theorem fX10_310 : zt_F RX10 310 1 4 := ⟨RX1, TX1, 7, rfl, inqX1, by decide, zt_ins [_] [147] (by decide +kernel) (by decide +kernel) _ (List.mem_singleton.mpr rfl)⟩
theorem fX1_28 : zt_F RX1 28 1 5 := ⟨RX1, TX1, 7, rfl, inqX1, by decide, zt_ins [_] [148] (by decide +kernel) (by decide +kernel) _ (List.mem_singleton.mpr rfl)⟩
theorem fX5_67 : zt_F RX5 67 1 5 := ⟨RX1, TX1, 7, rfl, inqX1, by decide, zt_ins [_] [149] (by decide +kernel) (by decide +kernel) _ (List.mem_singleton.mpr rfl)⟩
theorem fX10_114 : zt_F RX10 114 1 5 := ⟨RX1, TX1, 7, rfl, inqX1, by decide, zt_ins [_] [150] (by decide +kernel) (by decide +kernel) _ (List.mem_singleton.mpr rfl)⟩
theorem fX1_31 : zt_F RX1 31 1 6 := ⟨RX1, TX1, 7, rfl, inqX1, by decide, zt_ins [_] [151] (by decide +kernel) (by decide +kernel) _ (List.mem_singleton.mpr rfl)⟩
theorem fX0_35 : zt_F RX0 35 1 6 := ⟨RX1, TX1, 7, rfl, inqX1, by decide, zt_ins [_] [152] (by decide +kernel) (by decide +kernel) _ (List.mem_singleton.mpr rfl)⟩
theorem fX8_33 : zt_F RX8 33 1 6 := ⟨RX1, TX1, 7, rfl, inqX1, by decide, zt_ins [_] [153] (by decide +kernel) (by decide +kernel) _ (List.mem_singleton.mpr rfl)⟩
theorem fX10_303 : zt_F RX10 303 1 6 := ⟨RX1, TX1, 7, rfl, inqX1, by decide, zt_ins [_] [154] (by decide +kernel) (by decide +kernel) _ (List.mem_singleton.mpr rfl)⟩
theorem fX5_12 : zt_F RX5 12 5 0 := ⟨RX5, TX5, 4, rfl, inqX5, by decide, zt_ins [_] [170] (by decide +kernel) (by decide +kernel) _ (List.mem_singleton.mpr rfl)⟩
theorem fX10_98 : zt_F RX10 98 5 0 := ⟨RX5, TX5, 4, rfl, inqX5, by decide, zt_ins [_] [171] (by decide +kernel) (by decide +kernel) _ (List.mem_singleton.mpr rfl)⟩
theorem fX5_21 : zt_F RX5 21 5 1 := ⟨RX5, TX5, 4, rfl, inqX5, by decide, zt_ins [_] [172] (by decide +kernel) (by decide +kernel) _ (List.mem_singleton.mpr rfl)⟩
theorem fX10_103 : zt_F RX10 103 5 1 := ⟨RX5, TX5, 4, rfl, inqX5, by decide, zt_ins [_] [173] (by decide +kernel) (by decide +kernel) _ (List.mem_singleton.mpr rfl)⟩
theorem fX5_25 : zt_F RX5 25 5 2 := ⟨RX5, TX5, 4, rfl, inqX5, by decide, zt_ins [_] [174] (by decide +kernel) (by decide +kernel) _ (List.mem_singleton.mpr rfl)⟩
theorem fX5_29 : zt_F RX5 29 5 3 := ⟨RX5, TX5, 4, rfl, inqX5, by decide, zt_ins [_] [175] (by decide +kernel) (by decide +kernel) _ (List.mem_singleton.mpr rfl)⟩
theorem fX0_9 : zt_F RX0 9 0 0 := ⟨RX0, TX0, 3, rfl, inqX0, by decide, zt_ins [_] [195] (by decide +kernel) (by decide +kernel) _ (List.mem_singleton.mpr rfl)⟩
theorem fX0_15 : zt_F RX0 15 0 1 := ⟨RX0, TX0, 3, rfl, inqX0, by decide, zt_ins [_] [196] (by decide +kernel) (by decide +kernel) _ (List.mem_singleton.mpr rfl)⟩
theorem fX0_19 : zt_F RX0 19 0 2 := ⟨RX0, TX0, 3, rfl, inqX0, by decide, zt_ins [_] [197] (by decide +kernel) (by decide +kernel) _ (List.mem_singleton.mpr rfl)⟩
theorem fX10_205 : zt_F RX10 205 0 2 := ⟨RX0, TX0, 3, rfl, inqX0, by decide, zt_ins [_] [198] (by decide +kernel) (by decide +kernel) _ (List.mem_singleton.mpr rfl)⟩
theorem fX8_9 : zt_F RX8 9 8 0 := ⟨RX8, TX8, 3, rfl, inqX8, by decide, zt_ins [_] [213] (by decide +kernel) (by decide +kernel) _ (List.mem_singleton.mpr rfl)⟩
theorem fX8_15 : zt_F RX8 15 8 1 := ⟨RX8, TX8, 3, rfl, inqX8, by decide, zt_ins [_] [214] (by decide +kernel) (by decide +kernel) _ (List.mem_singleton.mpr rfl)⟩
theorem fX8_19 : zt_F RX8 19 8 2 := ⟨RX8, TX8, 3, rfl, inqX8, by decide, zt_ins [_] [215] (by decide +kernel) (by decide +kernel) _ (List.mem_singleton.mpr rfl)⟩
theorem fX7_11 : zt_F RX7 11 7 0 := ⟨RX7, TX7, 8, rfl, inqX7, by decide, zt_ins [_] [230] (by decide +kernel) (by decide +kernel) _ (List.mem_singleton.mpr rfl)⟩
theorem fX7_15 : zt_F RX7 15 7 1 := ⟨RX7, TX7, 8, rfl, inqX7, by decide, zt_ins [_] [231] (by decide +kernel) (by decide +kernel) _ (List.mem_singleton.mpr rfl)⟩
theorem fX7_19 : zt_F RX7 19 7 2 := ⟨RX7, TX7, 8, rfl, inqX7, by decide, zt_ins [_] [232] (by decide +kernel) (by decide +kernel) _ (List.mem_singleton.mpr rfl)⟩
theorem fX7_22 : zt_F RX7 22 7 3 := ⟨RX7, TX7, 8, rfl, inqX7, by decide, zt_ins [_] [233] (by decide +kernel) (by decide +kernel) _ (List.mem_singleton.mpr rfl)⟩
theorem fX7_25 : zt_F RX7 25 7 4 := ⟨RX7, TX7, 8, rfl, inqX7, by decide, zt_ins [_] [234] (by decide +kernel) (by decide +kernel) _ (List.mem_singleton.mpr rfl)⟩
theorem fX7_29 : zt_F RX7 29 7 5 := ⟨RX7, TX7, 8, rfl, inqX7, by decide, zt_ins [_] [235] (by decide +kernel) (by decide +kernel) _ (List.mem_singleton.mpr rfl)⟩
theorem fX7_32 : zt_F RX7 32 7 6 := ⟨RX7, TX7, 8, rfl, inqX7, by decide, zt_ins [_] [236] (by decide +kernel) (by decide +kernel) _ (List.mem_singleton.mpr rfl)⟩
theorem fX10_218 : zt_F RX10 218 7 6 := ⟨RX7, TX7, 8, rfl, inqX7, by decide, zt_ins [_] [237] (by decide +kernel) (by decide +kernel) _ (List.mem_singleton.mpr rfl)⟩
theorem fX7_35 : zt_F RX7 35 7 7 := ⟨RX7, TX7, 8, rfl, inqX7, by decide, zt_ins [_] [238] (by decide +kernel) (by decide +kernel) _ (List.mem_singleton.mpr rfl)⟩
theorem fX10_221 : zt_F RX10 221 7 7 := ⟨RX7, TX7, 8, rfl, inqX7, by decide, zt_ins [_] [239] (by decide +kernel) (by decide +kernel) _ (List.mem_singleton.mpr rfl)⟩
theorem fX4_9 : zt_F RX4 9 4 0 := ⟨RX4, TX4, 3, rfl, inqX4, by decide, zt_ins [_] [263] (by decide +kernel) (by decide +kernel) _ (List.mem_singleton.mpr rfl)⟩
theorem fX4_15 : zt_F RX4 15 4 1 := ⟨RX4, TX4, 3, rfl, inqX4, by decide, zt_ins [_] [264] (by decide +kernel) (by decide +kernel) _ (List.mem_singleton.mpr rfl)⟩
theorem fX4_18 : zt_F RX4 18 4 2 := ⟨RX4, TX4, 3, rfl, inqX4, by decide, zt_ins [_] [265] (by decide +kernel) (by decide +kernel) _ (List.mem_singleton.mpr rfl)⟩
theorem fX9_9 : zt_F RX9 9 9 0 := ⟨RX9, TX9, 5, rfl, inqX9, by decide, zt_ins [_] [279] (by decide +kernel) (by decide +kernel) _ (List.mem_singleton.mpr rfl)⟩
theorem fX9_15 : zt_F RX9 15 9 1 := ⟨RX9, TX9, 5, rfl, inqX9, by decide, zt_ins [_] [280] (by decide +kernel) (by decide +kernel) _ (List.mem_singleton.mpr rfl)⟩
theorem fX9_18 : zt_F RX9 18 9 2 := ⟨RX9, TX9, 5, rfl, inqX9, by decide, zt_ins [_] [281] (by decide +kernel) (by decide +kernel) _ (List.mem_singleton.mpr rfl)⟩
theorem fX10_255 : zt_F RX10 255 9 2 := ⟨RX9, TX9, 5, rfl, inqX9, by decide, zt_ins [_] [282] (by decide +kernel) (by decide +kernel) _ (List.mem_singleton.mpr rfl)⟩
theorem fX9_21 : zt_F RX9 21 9 3 := ⟨RX9, TX9, 5, rfl, inqX9, by decide, zt_ins [_] [283] (by decide +kernel) (by decide +kernel) _ (List.mem_singleton.mpr rfl)⟩
theorem fX10_261 : zt_F RX10 261 9 3 := ⟨RX9, TX9, 5, rfl, inqX9, by decide, zt_ins [_] [284] (by decide +kernel) (by decide +kernel) _ (List.mem_singleton.mpr rfl)⟩
theorem fX9_24 : zt_F RX9 24 9 4 := ⟨RX9, TX9, 5, rfl, inqX9, by decide, zt_ins [_] [285] (by decide +kernel) (by decide +kernel) _ (List.mem_singleton.mpr rfl)⟩
theorem fX10_264 : zt_F RX10 264 9 4 := ⟨RX9, TX9, 5, rfl, inqX9, by decide, zt_ins [_] [286] (by decide +kernel) (by decide +kernel) _ (List.mem_singleton.mpr rfl)⟩
theorem fX2_11 : zt_F RX2 11 2 0 := ⟨RX2, TX2, 4, rfl, inqX2, by decide, zt_ins [_] [304] (by decide +kernel) (by decide +kernel) _ (List.mem_singleton.mpr rfl)⟩
theorem fX2_15 : zt_F RX2 15 2 1 := ⟨RX2, TX2, 4, rfl, inqX2, by decide, zt_ins [_] [305] (by decide +kernel) (by decide +kernel) _ (List.mem_singleton.mpr rfl)⟩
theorem fX2_18 : zt_F RX2 18 2 2 := ⟨RX2, TX2, 4, rfl, inqX2, by decide, zt_ins [_] [306] (by decide +kernel) (by decide +kernel) _ (List.mem_singleton.mpr rfl)⟩
theorem fX10_278 : zt_F RX10 278 2 2 := ⟨RX2, TX2, 4, rfl, inqX2, by decide, zt_ins [_] [307] (by decide +kernel) (by decide +kernel) _ (List.mem_singleton.mpr rfl)⟩
theorem fX2_22 : zt_F RX2 22 2 3 := ⟨RX2, TX2, 4, rfl, inqX2, by decide, zt_ins [_] [308] (by decide +kernel) (by decide +kernel) _ (List.mem_singleton.mpr rfl)⟩
theorem fX10_279 : zt_F RX10 279 2 3 := ⟨RX2, TX2, 4, rfl, inqX2, by decide, zt_ins [_] [309] (by decide +kernel) (by decide +kernel) _ (List.mem_singleton.mpr rfl)⟩
theorem fX10_10 : zt_F RX10 10 10 0 := ⟨RX10, TX10, 12, rfl, inqX10, by decide, zt_ins [_] [319] (by decide +kernel) (by decide +kernel) _ (List.mem_singleton.mpr rfl)⟩
theorem fX10_19 : zt_F RX10 19 10 1 := ⟨RX10, TX10, 12, rfl, inqX10, by decide, zt_ins [_] [320] (by decide +kernel) (by decide +kernel) _ (List.mem_singleton.mpr rfl)⟩
theorem fX10_26 : zt_F RX10 26 10 2 := ⟨RX10, TX10, 12, rfl, inqX10, by decide, zt_ins [_] [321] (by decide +kernel) (by decide +kernel) _ (List.mem_singleton.mpr rfl)⟩
theorem fX10_33 : zt_F RX10 33 10 3 := ⟨RX10, TX10, 12, rfl, inqX10, by decide, zt_ins [_] [322] (by decide +kernel) (by decide +kernel) _ (List.mem_singleton.mpr rfl)⟩
theorem fX10_37 : zt_F RX10 37 10 4 := ⟨RX10, TX10, 12, rfl, inqX10, by decide, zt_ins [_] [323] (by decide +kernel) (by decide +kernel) _ (List.mem_singleton.mpr rfl)⟩
theorem fX10_43 : zt_F RX10 43 10 5 := ⟨RX10, TX10, 12, rfl, inqX10, by decide, zt_ins [_] [324] (by decide +kernel) (by decide +kernel) _ (List.mem_singleton.mpr rfl)⟩
theorem fX10_50 : zt_F RX10 50 10 6 := ⟨RX10, TX10, 12, rfl, inqX10, by decide, zt_ins [_] [325] (by decide +kernel) (by decide +kernel) _ (List.mem_singleton.mpr rfl)⟩
theorem fX10_57 : zt_F RX10 57 10 7 := ⟨RX10, TX10, 12, rfl, inqX10, by decide, zt_ins [_] [326] (by decide +kernel) (by decide +kernel) _ (List.mem_singleton.mpr rfl)⟩
theorem fX10_64 : zt_F RX10 64 10 8 := ⟨RX10, TX10, 12, rfl, inqX10, by decide, zt_ins [_] [327] (by decide +kernel) (by decide +kernel) _ (List.mem_singleton.mpr rfl)⟩
theorem fX10_71 : zt_F RX10 71 10 9 := ⟨RX10, TX10, 12, rfl, inqX10, by decide, zt_ins [_] [328] (by decide +kernel) (by decide +kernel) _ (List.mem_singleton.mpr rfl)⟩
theorem fX10_78 : zt_F RX10 78 10 10 := ⟨RX10, TX10, 12, rfl, inqX10, by decide, zt_ins [_] [329] (by decide +kernel) (by decide +kernel) _ (List.mem_singleton.mpr rfl)⟩
theorem fX10_82 : zt_F RX10 82 10 11 := ⟨RX10, TX10, 12, rfl, inqX10, by decide, zt_ins [_] [330] (by decide +kernel) (by decide +kernel) _ (List.mem_singleton.mpr rfl)⟩
theorem fw_static : Cond.fieldLink "ChalkTramps" 233 "ChalkTramps" "DOING_ROWS" "[J" ∈ zt_tb := zt_ins [_] [677] (by decide +kernel) (by decide +kernel) _ (List.mem_singleton.mpr rfl)
theorem fX11_107 : zt_F RX11 107 11 0 := ⟨RX11, TX11, 31, rfl, inqX11, by decide, zt_ins [_] [847] (by decide +kernel) (by decide +kernel) _ (List.mem_singleton.mpr rfl)⟩
theorem fX11_110 : zt_F RX11 110 11 1 := ⟨RX11, TX11, 31, rfl, inqX11, by decide, zt_ins [_] [848] (by decide +kernel) (by decide +kernel) _ (List.mem_singleton.mpr rfl)⟩
theorem fX11_7 : zt_F RX11 7 11 2 := ⟨RX11, TX11, 31, rfl, inqX11, by decide, zt_ins [_] [849] (by decide +kernel) (by decide +kernel) _ (List.mem_singleton.mpr rfl)⟩
theorem fX11_13 : zt_F RX11 13 11 3 := ⟨RX11, TX11, 31, rfl, inqX11, by decide, zt_ins [_] [850] (by decide +kernel) (by decide +kernel) _ (List.mem_singleton.mpr rfl)⟩
theorem fX11_16 : zt_F RX11 16 11 4 := ⟨RX11, TX11, 31, rfl, inqX11, by decide, zt_ins [_] [851] (by decide +kernel) (by decide +kernel) _ (List.mem_singleton.mpr rfl)⟩
theorem fX11_19 : zt_F RX11 19 11 5 := ⟨RX11, TX11, 31, rfl, inqX11, by decide, zt_ins [_] [852] (by decide +kernel) (by decide +kernel) _ (List.mem_singleton.mpr rfl)⟩
theorem fX11_22 : zt_F RX11 22 11 6 := ⟨RX11, TX11, 31, rfl, inqX11, by decide, zt_ins [_] [853] (by decide +kernel) (by decide +kernel) _ (List.mem_singleton.mpr rfl)⟩
theorem fX11_25 : zt_F RX11 25 11 7 := ⟨RX11, TX11, 31, rfl, inqX11, by decide, zt_ins [_] [854] (by decide +kernel) (by decide +kernel) _ (List.mem_singleton.mpr rfl)⟩
theorem fX11_28 : zt_F RX11 28 11 8 := ⟨RX11, TX11, 31, rfl, inqX11, by decide, zt_ins [_] [855] (by decide +kernel) (by decide +kernel) _ (List.mem_singleton.mpr rfl)⟩
theorem fX11_31 : zt_F RX11 31 11 9 := ⟨RX11, TX11, 31, rfl, inqX11, by decide, zt_ins [_] [856] (by decide +kernel) (by decide +kernel) _ (List.mem_singleton.mpr rfl)⟩
theorem fX11_34 : zt_F RX11 34 11 10 := ⟨RX11, TX11, 31, rfl, inqX11, by decide, zt_ins [_] [857] (by decide +kernel) (by decide +kernel) _ (List.mem_singleton.mpr rfl)⟩
theorem fX11_79 : zt_F RX11 79 11 11 := ⟨RX11, TX11, 31, rfl, inqX11, by decide, zt_ins [_] [858] (by decide +kernel) (by decide +kernel) _ (List.mem_singleton.mpr rfl)⟩
theorem fX11_82 : zt_F RX11 82 11 12 := ⟨RX11, TX11, 31, rfl, inqX11, by decide, zt_ins [_] [859] (by decide +kernel) (by decide +kernel) _ (List.mem_singleton.mpr rfl)⟩
theorem fX11_85 : zt_F RX11 85 11 13 := ⟨RX11, TX11, 31, rfl, inqX11, by decide, zt_ins [_] [860] (by decide +kernel) (by decide +kernel) _ (List.mem_singleton.mpr rfl)⟩
theorem fX11_37 : zt_F RX11 37 11 14 := ⟨RX11, TX11, 31, rfl, inqX11, by decide, zt_ins [_] [861] (by decide +kernel) (by decide +kernel) _ (List.mem_singleton.mpr rfl)⟩
theorem fX11_65 : zt_F RX11 65 11 15 := ⟨RX11, TX11, 31, rfl, inqX11, by decide, zt_ins [_] [862] (by decide +kernel) (by decide +kernel) _ (List.mem_singleton.mpr rfl)⟩
theorem fX11_72 : zt_F RX11 72 11 16 := ⟨RX11, TX11, 31, rfl, inqX11, by decide, zt_ins [_] [863] (by decide +kernel) (by decide +kernel) _ (List.mem_singleton.mpr rfl)⟩
theorem fX11_69 : zt_F RX11 69 11 17 := ⟨RX11, TX11, 31, rfl, inqX11, by decide, zt_ins [_] [864] (by decide +kernel) (by decide +kernel) _ (List.mem_singleton.mpr rfl)⟩
theorem fX11_125 : zt_F RX11 125 11 18 := ⟨RX11, TX11, 31, rfl, inqX11, by decide, zt_ins [_] [865] (by decide +kernel) (by decide +kernel) _ (List.mem_singleton.mpr rfl)⟩
theorem fX11_113 : zt_F RX11 113 11 19 := ⟨RX11, TX11, 31, rfl, inqX11, by decide, zt_ins [_] [866] (by decide +kernel) (by decide +kernel) _ (List.mem_singleton.mpr rfl)⟩
theorem fX11_161 : zt_F RX11 161 11 20 := ⟨RX11, TX11, 31, rfl, inqX11, by decide, zt_ins [_] [867] (by decide +kernel) (by decide +kernel) _ (List.mem_singleton.mpr rfl)⟩
theorem fX11_40 : zt_F RX11 40 11 21 := ⟨RX11, TX11, 31, rfl, inqX11, by decide, zt_ins [_] [868] (by decide +kernel) (by decide +kernel) _ (List.mem_singleton.mpr rfl)⟩
theorem fX11_43 : zt_F RX11 43 11 22 := ⟨RX11, TX11, 31, rfl, inqX11, by decide, zt_ins [_] [869] (by decide +kernel) (by decide +kernel) _ (List.mem_singleton.mpr rfl)⟩
theorem fX11_212 : zt_F RX11 212 11 23 := ⟨RX11, TX11, 31, rfl, inqX11, by decide, zt_ins [_] [870] (by decide +kernel) (by decide +kernel) _ (List.mem_singleton.mpr rfl)⟩
theorem fX11_215 : zt_F RX11 215 11 24 := ⟨RX11, TX11, 31, rfl, inqX11, by decide, zt_ins [_] [871] (by decide +kernel) (by decide +kernel) _ (List.mem_singleton.mpr rfl)⟩
theorem fX11_241 : zt_F RX11 241 11 25 := ⟨RX11, TX11, 31, rfl, inqX11, by decide, zt_ins [_] [872] (by decide +kernel) (by decide +kernel) _ (List.mem_singleton.mpr rfl)⟩
theorem fX11_46 : zt_F RX11 46 11 26 := ⟨RX11, TX11, 31, rfl, inqX11, by decide, zt_ins [_] [873] (by decide +kernel) (by decide +kernel) _ (List.mem_singleton.mpr rfl)⟩
theorem fX11_49 : zt_F RX11 49 11 27 := ⟨RX11, TX11, 31, rfl, inqX11, by decide, zt_ins [_] [874] (by decide +kernel) (by decide +kernel) _ (List.mem_singleton.mpr rfl)⟩
theorem fX11_268 : zt_F RX11 268 11 28 := ⟨RX11, TX11, 31, rfl, inqX11, by decide, zt_ins [_] [875] (by decide +kernel) (by decide +kernel) _ (List.mem_singleton.mpr rfl)⟩
theorem fX11_52 : zt_F RX11 52 11 29 := ⟨RX11, TX11, 31, rfl, inqX11, by decide, zt_ins [_] [876] (by decide +kernel) (by decide +kernel) _ (List.mem_singleton.mpr rfl)⟩
theorem fX11_56 : zt_F RX11 56 11 30 := ⟨RX11, TX11, 31, rfl, inqX11, by decide, zt_ins [_] [877] (by decide +kernel) (by decide +kernel) _ (List.mem_singleton.mpr rfl)⟩
theorem fwX0_2 : zt_W 0 2 .int := by
  intro C T N h
  cases h
  exact ⟨rfl, by decide +kernel, ⟨tyX0, tyX0_ok⟩, nmX0⟩
theorem fwX1_4 : zt_W 1 4 .int := by
  intro C T N h
  cases h
  exact ⟨rfl, by decide +kernel, ⟨tyX1, tyX1_ok⟩, nmX1⟩
theorem fwX1_5 : zt_W 1 5 .int := by
  intro C T N h
  cases h
  exact ⟨rfl, by decide +kernel, ⟨tyX1, tyX1_ok⟩, nmX1⟩
theorem fwX1_6 : zt_W 1 6 .int := by
  intro C T N h
  cases h
  exact ⟨rfl, by decide +kernel, ⟨tyX1, tyX1_ok⟩, nmX1⟩
theorem fwX10_11 : zt_W 10 11 .long := by
  intro C T N h
  cases h
  exact ⟨rfl, by decide +kernel, ⟨tyX10, tyX10_ok⟩, nmX10⟩
theorem fwX11_0 : zt_W 11 0 .int := by
  intro C T N h
  cases h
  exact ⟨rfl, by decide +kernel, ⟨tyX11, tyX11_ok⟩, nmX11⟩
theorem fwX11_1 : zt_W 11 1 .int := by
  intro C T N h
  cases h
  exact ⟨rfl, by decide +kernel, ⟨tyX11, tyX11_ok⟩, nmX11⟩
theorem fwX11_11 : zt_W 11 11 .int := by
  intro C T N h
  cases h
  exact ⟨rfl, by decide +kernel, ⟨tyX11, tyX11_ok⟩, nmX11⟩
theorem fwX11_12 : zt_W 11 12 .int := by
  intro C T N h
  cases h
  exact ⟨rfl, by decide +kernel, ⟨tyX11, tyX11_ok⟩, nmX11⟩
theorem fwX11_13 : zt_W 11 13 .int := by
  intro C T N h
  cases h
  exact ⟨rfl, by decide +kernel, ⟨tyX11, tyX11_ok⟩, nmX11⟩
theorem fwX11_15 : zt_W 11 15 .int := by
  intro C T N h
  cases h
  exact ⟨rfl, by decide +kernel, ⟨tyX11, tyX11_ok⟩, nmX11⟩
theorem fwX11_16 : zt_W 11 16 .int := by
  intro C T N h
  cases h
  exact ⟨rfl, by decide +kernel, ⟨tyX11, tyX11_ok⟩, nmX11⟩
theorem fwX11_17 : zt_W 11 17 .int := by
  intro C T N h
  cases h
  exact ⟨rfl, by decide +kernel, ⟨tyX11, tyX11_ok⟩, nmX11⟩
theorem fwX11_18 : zt_W 11 18 .int := by
  intro C T N h
  cases h
  exact ⟨rfl, by decide +kernel, ⟨tyX11, tyX11_ok⟩, nmX11⟩
theorem fwX11_19 : zt_W 11 19 .int := by
  intro C T N h
  cases h
  exact ⟨rfl, by decide +kernel, ⟨tyX11, tyX11_ok⟩, nmX11⟩
theorem fwX11_20 : zt_W 11 20 .int := by
  intro C T N h
  cases h
  exact ⟨rfl, by decide +kernel, ⟨tyX11, tyX11_ok⟩, nmX11⟩
theorem fwX11_23 : zt_W 11 23 .int := by
  intro C T N h
  cases h
  exact ⟨rfl, by decide +kernel, ⟨tyX11, tyX11_ok⟩, nmX11⟩
theorem fwX11_24 : zt_W 11 24 .int := by
  intro C T N h
  cases h
  exact ⟨rfl, by decide +kernel, ⟨tyX11, tyX11_ok⟩, nmX11⟩
theorem fwX11_25 : zt_W 11 25 .int := by
  intro C T N h
  cases h
  exact ⟨rfl, by decide +kernel, ⟨tyX11, tyX11_ok⟩, nmX11⟩
theorem fwX11_28 : zt_W 11 28 .long := by
  intro C T N h
  cases h
  exact ⟨rfl, by decide +kernel, ⟨tyX11, tyX11_ok⟩, nmX11⟩
theorem fwX2_2 : zt_W 2 2 .int := by
  intro C T N h
  cases h
  exact ⟨rfl, by decide +kernel, ⟨tyX2, tyX2_ok⟩, nmX2⟩
theorem fwX2_3 : zt_W 2 3 .int := by
  intro C T N h
  cases h
  exact ⟨rfl, by decide +kernel, ⟨tyX2, tyX2_ok⟩, nmX2⟩
theorem fwX3_3 : zt_W 3 3 .int := by
  intro C T N h
  cases h
  exact ⟨rfl, by decide +kernel, ⟨tyX3, tyX3_ok⟩, nmX3⟩
theorem fwX4_2 : zt_W 4 2 .int := by
  intro C T N h
  cases h
  exact ⟨rfl, by decide +kernel, ⟨tyX4, tyX4_ok⟩, nmX4⟩
theorem fwX5_2 : zt_W 5 2 .int := by
  intro C T N h
  cases h
  exact ⟨rfl, by decide +kernel, ⟨tyX5, tyX5_ok⟩, nmX5⟩
theorem fwX5_3 : zt_W 5 3 .int := by
  intro C T N h
  cases h
  exact ⟨rfl, by decide +kernel, ⟨tyX5, tyX5_ok⟩, nmX5⟩
theorem fwX6_1 : zt_W 6 1 .int := by
  intro C T N h
  cases h
  exact ⟨rfl, by decide +kernel, ⟨tyX6, tyX6_ok⟩, nmX6⟩
theorem fwX7_4 : zt_W 7 4 .int := by
  intro C T N h
  cases h
  exact ⟨rfl, by decide +kernel, ⟨tyX7, tyX7_ok⟩, nmX7⟩
theorem fwX7_5 : zt_W 7 5 .int := by
  intro C T N h
  cases h
  exact ⟨rfl, by decide +kernel, ⟨tyX7, tyX7_ok⟩, nmX7⟩
theorem fwX7_6 : zt_W 7 6 .int := by
  intro C T N h
  cases h
  exact ⟨rfl, by decide +kernel, ⟨tyX7, tyX7_ok⟩, nmX7⟩
theorem fwX7_7 : zt_W 7 7 .int := by
  intro C T N h
  cases h
  exact ⟨rfl, by decide +kernel, ⟨tyX7, tyX7_ok⟩, nmX7⟩
theorem fwX9_0 : zt_W 9 0 .int := by
  intro C T N h
  cases h
  exact ⟨rfl, by decide +kernel, ⟨tyX9, tyX9_ok⟩, nmX9⟩
theorem fwX9_1 : zt_W 9 1 .int := by
  intro C T N h
  cases h
  exact ⟨rfl, by decide +kernel, ⟨tyX9, tyX9_ok⟩, nmX9⟩
theorem fwX9_2 : zt_W 9 2 .int := by
  intro C T N h
  cases h
  exact ⟨rfl, by decide +kernel, ⟨tyX9, tyX9_ok⟩, nmX9⟩
theorem fwX9_3 : zt_W 9 3 .int := by
  intro C T N h
  cases h
  exact ⟨rfl, by decide +kernel, ⟨tyX9, tyX9_ok⟩, nmX9⟩
theorem fwX9_4 : zt_W 9 4 .int := by
  intro C T N h
  cases h
  exact ⟨rfl, by decide +kernel, ⟨tyX9, tyX9_ok⟩, nmX9⟩
theorem kJ6_265 : Cond.constant RJ6 265 (1431655765) ∈ zt_tb := zt_ins [_] [540] (by decide +kernel) (by decide +kernel) _ (List.mem_singleton.mpr rfl)
theorem kJ6_266 : Cond.constant RJ6 266 (858993459) ∈ zt_tb := zt_ins [_] [541] (by decide +kernel) (by decide +kernel) _ (List.mem_singleton.mpr rfl)
theorem kJ6_267 : Cond.constant RJ6 267 (252645135) ∈ zt_tb := zt_ins [_] [542] (by decide +kernel) (by decide +kernel) _ (List.mem_singleton.mpr rfl)
theorem kX10_237 : Cond.constantLong RX10 237 (1000) ∈ zt_tb := zt_ins [_] [679] (by decide +kernel) (by decide +kernel) _ (List.mem_singleton.mpr rfl)
theorem kX10_284 : Cond.constantLong RX10 284 (6364136223846793005) ∈ zt_tb := zt_ins [_] [793] (by decide +kernel) (by decide +kernel) _ (List.mem_singleton.mpr rfl)
theorem kX10_286 : Cond.constantLong RX10 286 (1442695040888963407) ∈ zt_tb := zt_ins [_] [794] (by decide +kernel) (by decide +kernel) _ (List.mem_singleton.mpr rfl)
theorem kX10_288 : Cond.constantLong RX10 288 (64) ∈ zt_tb := zt_ins [_] [795] (by decide +kernel) (by decide +kernel) _ (List.mem_singleton.mpr rfl)
theorem kX11_59 : Cond.constantLong RX11 59 (255) ∈ zt_tb := zt_ins [_] [945] (by decide +kernel) (by decide +kernel) _ (List.mem_singleton.mpr rfl)
theorem kX11_99 : Cond.constantLong RX11 99 (97) ∈ zt_tb := zt_ins [_] [976] (by decide +kernel) (by decide +kernel) _ (List.mem_singleton.mpr rfl)
theorem kX11_101 : Cond.constantLong RX11 101 (102) ∈ zt_tb := zt_ins [_] [977] (by decide +kernel) (by decide +kernel) _ (List.mem_singleton.mpr rfl)
theorem kX11_116 : Cond.constantLong RX11 116 (9) ∈ zt_tb := zt_ins [_] [1025] (by decide +kernel) (by decide +kernel) _ (List.mem_singleton.mpr rfl)
theorem kX11_193 : Cond.constantLong RX11 193 (20) ∈ zt_tb := zt_ins [_] [1100] (by decide +kernel) (by decide +kernel) _ (List.mem_singleton.mpr rfl)
theorem kX11_201 : Cond.constantLong RX11 201 (63) ∈ zt_tb := zt_ins [_] [1113] (by decide +kernel) (by decide +kernel) _ (List.mem_singleton.mpr rfl)
theorem kX11_210 : Cond.constantLong RX11 210 (5) ∈ zt_tb := zt_ins [_] [1141] (by decide +kernel) (by decide +kernel) _ (List.mem_singleton.mpr rfl)
theorem kX11_232 : Cond.constantLong RX11 232 (4) ∈ zt_tb := zt_ins [_] [1146] (by decide +kernel) (by decide +kernel) _ (List.mem_singleton.mpr rfl)
theorem kX11_230 : Cond.constantLong RX11 230 (1000) ∈ zt_tb := zt_ins [_] [1150] (by decide +kernel) (by decide +kernel) _ (List.mem_singleton.mpr rfl)
theorem kX11_228 : Cond.constantLong RX11 228 (6) ∈ zt_tb := zt_ins [_] [1155] (by decide +kernel) (by decide +kernel) _ (List.mem_singleton.mpr rfl)
theorem kX11_266 : Cond.constantLong RX11 266 (10) ∈ zt_tb := zt_ins [_] [1206] (by decide +kernel) (by decide +kernel) _ (List.mem_singleton.mpr rfl)
theorem kX11_272 : Cond.constantLong RX11 272 (30) ∈ zt_tb := zt_ins [_] [1215] (by decide +kernel) (by decide +kernel) _ (List.mem_singleton.mpr rfl)
theorem kX11_274 : Cond.constantLong RX11 274 (6364136223846793005) ∈ zt_tb := zt_ins [_] [1216] (by decide +kernel) (by decide +kernel) _ (List.mem_singleton.mpr rfl)
theorem kX11_276 : Cond.constantLong RX11 276 (1442695040888963407) ∈ zt_tb := zt_ins [_] [1217] (by decide +kernel) (by decide +kernel) _ (List.mem_singleton.mpr rfl)
theorem kX11_278 : Cond.constantLong RX11 278 (64) ∈ zt_tb := zt_ins [_] [1218] (by decide +kernel) (by decide +kernel) _ (List.mem_singleton.mpr rfl)
theorem kL_81 : Cond.constantLong RL 81 (4294967295) ∈ zt_tb := zt_ins [_] [1235] (by decide +kernel) (by decide +kernel) _ (List.mem_singleton.mpr rfl)
theorem sX0_23 : ∀ w ∈ [Cond.methodLink RX0 23 arraycopyName, Cond.native arraycopyName, Cond.static arraycopyName, Cond.initialized "java/lang/System"], w ∈ zt_tb := zt_ins _ [506, 445, 444, 65] (by decide +kernel) (by decide +kernel)
theorem sX0_29 : zt_V RX0 29 yX1_packed mX1_packed 0 := ⟨zt_ins _ [507, 508, 509, 57, 510] (by decide +kernel) (by decide +kernel), ⟨by decide, by decide, by decide +kernel⟩⟩
theorem sX0_37 : zt_V RX0 37 yX1_unpack mX1_unpack 1 := ⟨zt_ins _ [595, 596, 597, 57, 598] (by decide +kernel) (by decide +kernel), ⟨by decide, by decide, by decide +kernel⟩⟩
theorem sX1_34 : zt_V RX1 34 yX1_isHummock mX1_isHummock 1 := ⟨zt_ins _ [517, 489, 490, 57, 491] (by decide +kernel) (by decide +kernel), ⟨by decide, by decide, by decide +kernel⟩⟩
theorem sX1_38 : zt_X RX1 38 yJ6_bitCount_0f7a4 mJ6_bitCount_0f7a4 1 := ⟨zt_ins _ [804, 538, 67, 539] (by decide +kernel) (by decide +kernel), ⟨by decide, by decide, by decide +kernel⟩⟩
theorem sX1_44 : zt_V RX1 44 yX3_kilnAt mX3_kilnAt 1 := ⟨zt_ins _ [515, 396, 397, 56, 398] (by decide +kernel) (by decide +kernel), ⟨by decide, by decide, by decide +kernel⟩⟩
theorem sX1_49 : zt_V RX1 49 yX3_has mX3_has 1 := ⟨zt_ins _ [516, 412, 413, 56, 414] (by decide +kernel) (by decide +kernel), ⟨by decide, by decide, by decide +kernel⟩⟩
theorem sX1_52 : zt_V RX1 52 yX1_lieUp mX1_lieUp 3 := ⟨zt_ins _ [518, 520, 5, 57, 521] (by decide +kernel) (by decide +kernel), ⟨by decide, by decide, by decide +kernel⟩⟩
theorem sX1_56 : zt_V RX1 56 yX1_knownAt mX1_knownAt 1 := ⟨zt_ins _ [529, 530, 531, 57, 532] (by decide +kernel) (by decide +kernel), ⟨by decide, by decide, by decide +kernel⟩⟩
theorem sX1_59 : zt_N RX1 59 yX10_appetiteOf mX10_appetiteOf 1 := ⟨zt_ins _ [523, 53, 524] (by decide +kernel) (by decide +kernel), ⟨by decide, by decide, by decide +kernel⟩, ⟨"ChalkTramps", by decide +kernel⟩⟩
theorem sX1_65 : zt_V RX1 65 yX3_layerOf mX3_layerOf 2 := ⟨zt_ins _ [525, 420, 421, 56, 422] (by decide +kernel) (by decide +kernel), ⟨by decide, by decide, by decide +kernel⟩⟩
theorem sX1_69 : ∀ w ∈ [Cond.methodLink RX1 69 Lib.Math.min.name, Cond.static Lib.Math.min.name, Cond.initialized "java/lang/Math", Cond.code Lib.Math.min.name Lib.Math.min.code 2 (some .int)], w ∈ zt_tb := zt_ins _ [526, 527, 66, 528] (by decide +kernel) (by decide +kernel)
theorem sX1_74 : zt_V RX1 74 yX1_has mX1_has 1 := ⟨zt_ins _ [551, 477, 478, 57, 479] (by decide +kernel) (by decide +kernel), ⟨by decide, by decide, by decide +kernel⟩⟩
theorem sX1_75 : zt_N RX1 75 yX10_isPlace mX10_isPlace 1 := ⟨zt_ins _ [393, 53, 394] (by decide +kernel) (by decide +kernel), ⟨by decide, by decide, by decide +kernel⟩, ⟨"ChalkTramps", by decide +kernel⟩⟩
theorem sX1_78 : zt_V RX1 78 yX1_hasWalked mX1_hasWalked 1 := ⟨zt_ins _ [553, 485, 486, 57, 487] (by decide +kernel) (by decide +kernel), ⟨by decide, by decide, by decide +kernel⟩⟩
theorem sX1_81 : ∀ w ∈ [Cond.methodLink RX1 81 Lib.Math.abs.name, Cond.static Lib.Math.abs.name, Cond.initialized "java/lang/Math", Cond.code Lib.Math.abs.name Lib.Math.abs.code 1 (some .int)], w ∈ zt_tb := zt_ins _ [554, 555, 66, 556] (by decide +kernel) (by decide +kernel)
theorem sX1_84 : zt_V RX1 84 yX1_speedOf mX1_speedOf 1 := ⟨zt_ins _ [557, 481, 482, 57, 483] (by decide +kernel) (by decide +kernel), ⟨by decide, by decide, by decide +kernel⟩⟩
theorem sX1_87 : zt_V RX1 87 yX1_mayGo mX1_mayGo 2 := ⟨zt_ins _ [628, 548, 549, 57, 550] (by decide +kernel) (by decide +kernel), ⟨by decide, by decide, by decide +kernel⟩⟩
theorem sX1_91 : zt_V RX1 91 yX1_goTo mX1_goTo 2 := ⟨zt_ins _ [629, 560, 561, 57, 562] (by decide +kernel) (by decide +kernel), ⟨by decide, by decide, by decide +kernel⟩⟩
theorem sX1_95 : zt_V RX1 95 yX1_mayHear mX1_mayHear 2 := ⟨zt_ins _ [689, 568, 569, 57, 570] (by decide +kernel) (by decide +kernel), ⟨by decide, by decide, by decide +kernel⟩⟩
theorem sX1_98 : zt_V RX1 98 yX1_hear mX1_hear 2 := ⟨zt_ins _ [690, 572, 573, 57, 574] (by decide +kernel) (by decide +kernel), ⟨by decide, by decide, by decide +kernel⟩⟩
theorem sX1_101 : zt_V RX1 101 yX1_mayBathe mX1_mayBathe 1 := ⟨zt_ins _ [695, 580, 581, 57, 582] (by decide +kernel) (by decide +kernel), ⟨by decide, by decide, by decide +kernel⟩⟩
theorem sX1_104 : zt_V RX1 104 yX1_bathe mX1_bathe 1 := ⟨zt_ins _ [696, 584, 585, 57, 586] (by decide +kernel) (by decide +kernel), ⟨by decide, by decide, by decide +kernel⟩⟩
theorem sX2_25 : zt_V RX2 25 yX1_copyFrom mX1_copyFrom 1 := ⟨zt_ins _ [762, 447, 448, 57, 449] (by decide +kernel) (by decide +kernel), ⟨by decide, by decide, by decide +kernel⟩⟩
theorem sX2_31 : zt_X RX2 31 yX2_goToKiln mX2_goToKiln 4 := ⟨zt_ins _ [763, 764, 63, 765] (by decide +kernel) (by decide +kernel), ⟨by decide, by decide, by decide +kernel⟩⟩
theorem sX2_35 : zt_V RX2 35 yX1_passNight mX1_passNight 2 := ⟨zt_ins _ [768, 512, 513, 57, 514] (by decide +kernel) (by decide +kernel), ⟨by decide, by decide, by decide +kernel⟩⟩
theorem sX2_39 : zt_X RX2 39 yX2_gainOf mX2_gainOf 3 := ⟨zt_ins _ [769, 770, 63, 771] (by decide +kernel) (by decide +kernel), ⟨by decide, by decide, by decide +kernel⟩⟩
theorem sX2_43 : zt_V RX2 43 yX2_isAtRest mX2_isAtRest 2 := ⟨zt_ins _ [773, 775, 15, 63, 776] (by decide +kernel) (by decide +kernel), ⟨by decide, by decide, by decide +kernel⟩⟩
theorem sX2_47 : zt_V RX2 47 yX3_has mX3_has 1 := ⟨zt_ins _ [766, 412, 413, 56, 414] (by decide +kernel) (by decide +kernel), ⟨by decide, by decide, by decide +kernel⟩⟩
theorem sX2_56 : zt_V RX2 56 yX1_goesIfItMay mX1_goesIfItMay 2 := ⟨zt_ins _ [767, 625, 626, 57, 627] (by decide +kernel) (by decide +kernel), ⟨by decide, by decide, by decide +kernel⟩⟩
theorem sX2_62 : zt_X RX2 62 yJ6_bitCount_0f7a4 mJ6_bitCount_0f7a4 1 := ⟨zt_ins _ [772, 538, 67, 539] (by decide +kernel) (by decide +kernel), ⟨by decide, by decide, by decide +kernel⟩⟩
theorem sX3_25 : ∀ w ∈ [Cond.methodLink RX3 25 arraycopyName, Cond.native arraycopyName, Cond.static arraycopyName, Cond.initialized "java/lang/System"], w ∈ zt_tb := zt_ins _ [443, 445, 444, 65] (by decide +kernel) (by decide +kernel)
theorem sX3_31 : zt_V RX3 31 yX3_has mX3_has 1 := ⟨zt_ins _ [411, 412, 413, 56, 414] (by decide +kernel) (by decide +kernel), ⟨by decide, by decide, by decide +kernel⟩⟩
theorem sX3_35 : zt_V RX3 35 yX3_bitsOf mX3_bitsOf 1 := ⟨zt_ins _ [415, 416, 417, 56, 418] (by decide +kernel) (by decide +kernel), ⟨by decide, by decide, by decide +kernel⟩⟩
theorem sX3_39 : zt_V RX3 39 yX3_layerOf mX3_layerOf 2 := ⟨zt_ins _ [419, 420, 421, 56, 422] (by decide +kernel) (by decide +kernel), ⟨by decide, by decide, by decide +kernel⟩⟩
theorem sX4_22 : zt_V RX4 22 yX3_bitsOfAll mX3_bitsOfAll 0 := ⟨zt_ins _ [648, 649, 650, 56, 651] (by decide +kernel) (by decide +kernel), ⟨by decide, by decide, by decide +kernel⟩⟩
theorem sX4_34 : zt_V RX4 34 yX3_layerOf mX3_layerOf 2 := ⟨zt_ins _ [652, 420, 421, 56, 422] (by decide +kernel) (by decide +kernel), ⟨by decide, by decide, by decide +kernel⟩⟩
theorem sX4_38 : zt_V RX4 38 yX4_waysTo mX4_waysTo 1 := ⟨zt_ins _ [653, 655, 9, 61, 656] (by decide +kernel) (by decide +kernel), ⟨by decide, by decide, by decide +kernel⟩⟩
theorem sX4_42 : zt_V RX4 42 yX4_canFollow mX4_canFollow 2 := ⟨zt_ins _ [657, 659, 10, 61, 660] (by decide +kernel) (by decide +kernel), ⟨by decide, by decide, by decide +kernel⟩⟩
theorem sX4_46 : zt_V RX4 46 yX4_leastAfter mX4_leastAfter 1 := ⟨zt_ins _ [669, 671, 11, 61, 672] (by decide +kernel) (by decide +kernel), ⟨by decide, by decide, by decide +kernel⟩⟩
theorem sX5_32 : zt_V RX5 32 yX3_clear mX3_clear 0 := ⟨zt_ins _ [376, 377, 378, 56, 379] (by decide +kernel) (by decide +kernel), ⟨by decide, by decide, by decide +kernel⟩⟩
theorem sX5_35 : zt_V RX5 35 yX1_clear mX1_clear 0 := ⟨zt_ins _ [380, 381, 382, 57, 383] (by decide +kernel) (by decide +kernel), ⟨by decide, by decide, by decide +kernel⟩⟩
theorem sX5_45 : zt_V RX5 45 yX5_takes mX5_takes 1 := ⟨zt_ins _ [384, 386, 0, 55, 387] (by decide +kernel) (by decide +kernel), ⟨by decide, by decide, by decide +kernel⟩⟩
theorem sX5_49 : zt_V RX5 49 yX5_takesKilnPlace mX5_takesKilnPlace 1 := ⟨zt_ins _ [388, 390, 1, 55, 391] (by decide +kernel) (by decide +kernel), ⟨by decide, by decide, by decide +kernel⟩⟩
theorem sX5_52 : zt_V RX5 52 yX5_takesLayer mX5_takesLayer 1 := ⟨zt_ins _ [403, 405, 2, 55, 406] (by decide +kernel) (by decide +kernel), ⟨by decide, by decide, by decide +kernel⟩⟩
theorem sX5_55 : zt_V RX5 55 yX5_beginsPart mX5_beginsPart 1 := ⟨zt_ins _ [423, 425, 3, 55, 426] (by decide +kernel) (by decide +kernel), ⟨by decide, by decide, by decide +kernel⟩⟩
theorem sX5_58 : zt_N RX5 58 yX10_isPlace mX10_isPlace 1 := ⟨zt_ins _ [393, 53, 394] (by decide +kernel) (by decide +kernel), ⟨by decide, by decide, by decide +kernel⟩, ⟨"ChalkTramps", by decide +kernel⟩⟩
theorem sX5_61 : zt_V RX5 61 yX5_takesTrampKind mX5_takesTrampKind 1 := ⟨zt_ins _ [427, 429, 4, 55, 430] (by decide +kernel) (by decide +kernel), ⟨by decide, by decide, by decide +kernel⟩⟩
theorem sX5_70 : zt_V RX5 70 yX3_kilnAt mX3_kilnAt 1 := ⟨zt_ins _ [395, 396, 397, 56, 398] (by decide +kernel) (by decide +kernel), ⟨by decide, by decide, by decide +kernel⟩⟩
theorem sX5_74 : zt_V RX5 74 yX3_addKiln mX3_addKiln 1 := ⟨zt_ins _ [399, 400, 401, 56, 402] (by decide +kernel) (by decide +kernel), ⟨by decide, by decide, by decide +kernel⟩⟩
theorem sX5_78 : zt_V RX5 78 yX3_addLayer mX3_addLayer 1 := ⟨zt_ins _ [407, 408, 409, 56, 410] (by decide +kernel) (by decide +kernel), ⟨by decide, by decide, by decide +kernel⟩⟩
theorem sX5_81 : zt_V RX5 81 yX1_addTramp mX1_addTramp 2 := ⟨zt_ins _ [431, 432, 433, 57, 434] (by decide +kernel) (by decide +kernel), ⟨by decide, by decide, by decide +kernel⟩⟩
theorem sX7_43 : zt_V RX7 43 yX1_packed mX1_packed 0 := ⟨zt_ins _ [618, 508, 509, 57, 510] (by decide +kernel) (by decide +kernel), ⟨by decide, by decide, by decide +kernel⟩⟩
theorem sX7_47 : zt_V RX7 47 yX7_findsFrom mX7_findsFrom 5 := ⟨zt_ins _ [619, 621, 6, 60, 622] (by decide +kernel) (by decide +kernel), ⟨by decide, by decide, by decide +kernel⟩⟩
theorem sX7_51 : zt_V RX7 51 yX7_turnToNext mX7_turnToNext 0 := ⟨zt_ins _ [635, 637, 8, 60, 638] (by decide +kernel) (by decide +kernel), ⟨by decide, by decide, by decide +kernel⟩⟩
theorem sX7_54 : zt_V RX7 54 yX1_unpack mX1_unpack 1 := ⟨zt_ins _ [623, 596, 597, 57, 598] (by decide +kernel) (by decide +kernel), ⟨by decide, by decide, by decide +kernel⟩⟩
theorem sX7_61 : zt_V RX7 61 yX1_goesIfItMay mX1_goesIfItMay 2 := ⟨zt_ins _ [624, 625, 626, 57, 627] (by decide +kernel) (by decide +kernel), ⟨by decide, by decide, by decide +kernel⟩⟩
theorem sX7_65 : zt_V RX7 65 yX1_passNight mX1_passNight 2 := ⟨zt_ins _ [630, 512, 513, 57, 514] (by decide +kernel) (by decide +kernel), ⟨by decide, by decide, by decide +kernel⟩⟩
theorem sX7_69 : zt_V RX7 69 yX7_addNext mX7_addNext 2 := ⟨zt_ins _ [631, 633, 7, 60, 634] (by decide +kernel) (by decide +kernel), ⟨by decide, by decide, by decide +kernel⟩⟩
theorem sX7_73 : ∀ w ∈ [Cond.methodLink RX7 73 arraycopyName, Cond.native arraycopyName, Cond.static arraycopyName, Cond.initialized "java/lang/System"], w ∈ zt_tb := zt_ins _ [639, 445, 444, 65] (by decide +kernel) (by decide +kernel)
theorem sX8_23 : zt_N RX8 23 yX10_isSlot mX10_isSlot 1 := ⟨zt_ins _ [810, 53, 811] (by decide +kernel) (by decide +kernel), ⟨by decide, by decide, by decide +kernel⟩, ⟨"ChalkTramps", by decide +kernel⟩⟩
theorem sX8_27 : zt_V RX8 27 yX1_packed mX1_packed 0 := ⟨zt_ins _ [817, 508, 509, 57, 510] (by decide +kernel) (by decide +kernel), ⟨by decide, by decide, by decide +kernel⟩⟩
theorem sX8_36 : zt_V RX8 36 yX8_holds mX8_holds 1 := ⟨zt_ins _ [830, 823, 824, 59, 825] (by decide +kernel) (by decide +kernel), ⟨by decide, by decide, by decide +kernel⟩⟩
theorem sX8_39 : zt_V RX8 39 yX1_unpack mX1_unpack 1 := ⟨zt_ins _ [831, 596, 597, 57, 598] (by decide +kernel) (by decide +kernel), ⟨by decide, by decide, by decide +kernel⟩⟩
theorem sX9_32 : zt_N RX9 32 yX10_appetiteOf mX10_appetiteOf 1 := ⟨zt_ins _ [523, 53, 524] (by decide +kernel) (by decide +kernel), ⟨by decide, by decide, by decide +kernel⟩, ⟨"ChalkTramps", by decide +kernel⟩⟩
theorem sX9_36 : zt_X RX9 36 yX9_takenIn mX9_takenIn 3 := ⟨zt_ins _ [725, 726, 62, 727] (by decide +kernel) (by decide +kernel), ⟨by decide, by decide, by decide +kernel⟩⟩
theorem sX9_40 : zt_V RX9 40 yX9_fits mX9_fits 1 := ⟨zt_ins _ [729, 731, 13, 62, 732] (by decide +kernel) (by decide +kernel), ⟨by decide, by decide, by decide +kernel⟩⟩
theorem sX9_44 : zt_V RX9 44 yX9_noteFound mX9_noteFound 1 := ⟨zt_ins _ [733, 735, 14, 62, 736] (by decide +kernel) (by decide +kernel), ⟨by decide, by decide, by decide +kernel⟩⟩
theorem sX9_52 : zt_V RX9 52 yX3_layerOf mX3_layerOf 2 := ⟨zt_ins _ [728, 420, 421, 56, 422] (by decide +kernel) (by decide +kernel), ⟨by decide, by decide, by decide +kernel⟩⟩
theorem sX10_90 : zt_V RX10 90 yX6_add mX6_add 1 := ⟨zt_ins _ [360, 361, 362, 54, 363] (by decide +kernel) (by decide +kernel), ⟨by decide, by decide, by decide +kernel⟩⟩
theorem sX10_94 : zt_V RX10 94 yX5_read mX5_read 1 := ⟨zt_ins _ [372, 373, 374, 55, 375] (by decide +kernel) (by decide +kernel), ⟨by decide, by decide, by decide +kernel⟩⟩
theorem sX10_99 : zt_V RX10 99 yX3_copyFrom mX3_copyFrom 1 := ⟨zt_ins _ [439, 440, 441, 56, 442] (by decide +kernel) (by decide +kernel), ⟨by decide, by decide, by decide +kernel⟩⟩
theorem sX10_104 : zt_V RX10 104 yX1_copyFrom mX1_copyFrom 1 := ⟨zt_ins _ [446, 447, 448, 57, 449] (by decide +kernel) (by decide +kernel), ⟨by decide, by decide, by decide +kernel⟩⟩
theorem sX10_107 : zt_V RX10 107 yX0_clear mX0_clear 0 := ⟨zt_ins _ [450, 451, 452, 58, 453] (by decide +kernel) (by decide +kernel), ⟨by decide, by decide, by decide +kernel⟩⟩
theorem sX10_110 : zt_V RX10 110 yX8_clear mX8_clear 0 := ⟨zt_ins _ [454, 455, 456, 59, 457] (by decide +kernel) (by decide +kernel), ⟨by decide, by decide, by decide +kernel⟩⟩
theorem sX10_117 : zt_V RX10 117 yX3_has mX3_has 1 := ⟨zt_ins _ [462, 412, 413, 56, 414] (by decide +kernel) (by decide +kernel), ⟨by decide, by decide, by decide +kernel⟩⟩
theorem sX10_128 : zt_V RX10 128 yX3_bitsOf mX3_bitsOf 1 := ⟨zt_ins _ [463, 416, 417, 56, 418] (by decide +kernel) (by decide +kernel), ⟨by decide, by decide, by decide +kernel⟩⟩
theorem sX10_132 : zt_V RX10 132 yX3_figuresOf mX3_figuresOf 1 := ⟨zt_ins _ [464, 465, 466, 56, 467] (by decide +kernel) (by decide +kernel), ⟨by decide, by decide, by decide +kernel⟩⟩
theorem sX10_135 : zt_V RX10 135 yX1_trampsAt mX1_trampsAt 1 := ⟨zt_ins _ [468, 469, 470, 57, 471] (by decide +kernel) (by decide +kernel), ⟨by decide, by decide, by decide +kernel⟩⟩
theorem sX10_138 : zt_V RX10 138 yX1_has mX1_has 1 := ⟨zt_ins _ [476, 477, 478, 57, 479] (by decide +kernel) (by decide +kernel), ⟨by decide, by decide, by decide +kernel⟩⟩
theorem sX10_149 : zt_V RX10 149 yX1_speedOf mX1_speedOf 1 := ⟨zt_ins _ [480, 481, 482, 57, 483] (by decide +kernel) (by decide +kernel), ⟨by decide, by decide, by decide +kernel⟩⟩
theorem sX10_152 : zt_V RX10 152 yX1_hasWalked mX1_hasWalked 1 := ⟨zt_ins _ [484, 485, 486, 57, 487] (by decide +kernel) (by decide +kernel), ⟨by decide, by decide, by decide +kernel⟩⟩
theorem sX10_155 : zt_V RX10 155 yX1_isHummock mX1_isHummock 1 := ⟨zt_ins _ [488, 489, 490, 57, 491] (by decide +kernel) (by decide +kernel), ⟨by decide, by decide, by decide +kernel⟩⟩
theorem sX10_158 : zt_X RX10 158 yX10_isPlace mX10_isPlace 1 := ⟨zt_ins _ [496, 393, 53, 394] (by decide +kernel) (by decide +kernel), ⟨by decide, by decide, by decide +kernel⟩⟩
theorem sX10_161 : zt_V RX10 161 yX3_kilnAt mX3_kilnAt 1 := ⟨zt_ins _ [497, 396, 397, 56, 398] (by decide +kernel) (by decide +kernel), ⟨by decide, by decide, by decide +kernel⟩⟩
theorem sX10_164 : zt_V RX10 164 yX0_push mX0_push 1 := ⟨zt_ins _ [502, 503, 504, 58, 505] (by decide +kernel) (by decide +kernel), ⟨by decide, by decide, by decide +kernel⟩⟩
theorem sX10_167 : zt_V RX10 167 yX1_passNight mX1_passNight 2 := ⟨zt_ins _ [511, 512, 513, 57, 514] (by decide +kernel) (by decide +kernel), ⟨by decide, by decide, by decide +kernel⟩⟩
theorem sX10_171 : zt_V RX10 171 yX1_hummocks mX1_hummocks 0 := ⟨zt_ins _ [533, 534, 535, 57, 536] (by decide +kernel) (by decide +kernel), ⟨by decide, by decide, by decide +kernel⟩⟩
theorem sX10_175 : zt_X RX10 175 yJ6_bitCount_0f7a4 mJ6_bitCount_0f7a4 1 := ⟨zt_ins _ [537, 538, 67, 539] (by decide +kernel) (by decide +kernel), ⟨by decide, by decide, by decide +kernel⟩⟩
theorem sX10_180 : zt_V RX10 180 yX1_mayGo mX1_mayGo 2 := ⟨zt_ins _ [547, 548, 549, 57, 550] (by decide +kernel) (by decide +kernel), ⟨by decide, by decide, by decide +kernel⟩⟩
theorem sX10_184 : ∀ w ∈ [Cond.methodLink RX10 184 Lib.Math.abs.name, Cond.static Lib.Math.abs.name, Cond.initialized "java/lang/Math", Cond.code Lib.Math.abs.name Lib.Math.abs.code 1 (some .int)], w ∈ zt_tb := zt_ins _ [558, 555, 66, 556] (by decide +kernel) (by decide +kernel)
theorem sX10_189 : zt_V RX10 189 yX1_goTo mX1_goTo 2 := ⟨zt_ins _ [559, 560, 561, 57, 562] (by decide +kernel) (by decide +kernel), ⟨by decide, by decide, by decide +kernel⟩⟩
theorem sX10_193 : zt_V RX10 193 yX1_mayHear mX1_mayHear 2 := ⟨zt_ins _ [567, 568, 569, 57, 570] (by decide +kernel) (by decide +kernel), ⟨by decide, by decide, by decide +kernel⟩⟩
theorem sX10_196 : zt_V RX10 196 yX1_hear mX1_hear 2 := ⟨zt_ins _ [571, 572, 573, 57, 574] (by decide +kernel) (by decide +kernel), ⟨by decide, by decide, by decide +kernel⟩⟩
theorem sX10_199 : zt_V RX10 199 yX1_mayBathe mX1_mayBathe 1 := ⟨zt_ins _ [579, 580, 581, 57, 582] (by decide +kernel) (by decide +kernel), ⟨by decide, by decide, by decide +kernel⟩⟩
theorem sX10_202 : zt_V RX10 202 yX1_bathe mX1_bathe 1 := ⟨zt_ins _ [583, 584, 585, 57, 586] (by decide +kernel) (by decide +kernel), ⟨by decide, by decide, by decide +kernel⟩⟩
theorem sX10_208 : zt_V RX10 208 yX0_pop mX0_pop 1 := ⟨zt_ins _ [591, 592, 593, 58, 594] (by decide +kernel) (by decide +kernel), ⟨by decide, by decide, by decide +kernel⟩⟩
theorem sX10_211 : zt_X RX10 211 yX10_isFirstOrSecond mX10_isFirstOrSecond 1 := ⟨zt_ins _ [603, 604, 53, 605] (by decide +kernel) (by decide +kernel), ⟨by decide, by decide, by decide +kernel⟩⟩
theorem sX10_214 : zt_V RX10 214 yX7_finds mX7_finds 4 := ⟨zt_ins _ [614, 615, 616, 60, 617] (by decide +kernel) (by decide +kernel), ⟨by decide, by decide, by decide +kernel⟩⟩
theorem sX10_224 : zt_V RX10 224 yX4_look mX4_look 1 := ⟨zt_ins _ [644, 645, 646, 61, 647] (by decide +kernel) (by decide +kernel), ⟨by decide, by decide, by decide +kernel⟩⟩
theorem sX10_227 : zt_V RX10 227 yX4_howMany mX4_howMany 0 := ⟨zt_ins _ [661, 662, 663, 61, 664] (by decide +kernel) (by decide +kernel), ⟨by decide, by decide, by decide +kernel⟩⟩
theorem sX10_230 : zt_V RX10 230 yX4_least mX4_least 0 := ⟨zt_ins _ [665, 666, 667, 61, 668] (by decide +kernel) (by decide +kernel), ⟨by decide, by decide, by decide +kernel⟩⟩
theorem sX10_239 : zt_V RX10 239 yX10_canBe mX10_canBe 3 := ⟨zt_ins _ [680, 682, 12, 53, 683] (by decide +kernel) (by decide +kernel), ⟨by decide, by decide, by decide +kernel⟩⟩
theorem sX10_243 : zt_V RX10 243 yX1_goesIfItMay mX1_goesIfItMay 2 := ⟨zt_ins _ [684, 625, 626, 57, 627] (by decide +kernel) (by decide +kernel), ⟨by decide, by decide, by decide +kernel⟩⟩
theorem sX10_246 : zt_V RX10 246 yX1_hearsIfItMay mX1_hearsIfItMay 2 := ⟨zt_ins _ [685, 686, 687, 57, 688] (by decide +kernel) (by decide +kernel), ⟨by decide, by decide, by decide +kernel⟩⟩
theorem sX10_249 : zt_V RX10 249 yX1_bathesIfItMay mX1_bathesIfItMay 1 := ⟨zt_ins _ [691, 692, 693, 57, 694] (by decide +kernel) (by decide +kernel), ⟨by decide, by decide, by decide +kernel⟩⟩
theorem sX10_252 : zt_X RX10 252 yX10_isLayerFigure mX10_isLayerFigure 1 := ⟨zt_ins _ [697, 698, 53, 699] (by decide +kernel) (by decide +kernel), ⟨by decide, by decide, by decide +kernel⟩⟩
theorem sX10_256 : zt_V RX10 256 yX9_add mX9_add 2 := ⟨zt_ins _ [704, 705, 706, 62, 707] (by decide +kernel) (by decide +kernel), ⟨by decide, by decide, by decide +kernel⟩⟩
theorem sX10_259 : zt_V RX10 259 yX9_clear mX9_clear 0 := ⟨zt_ins _ [712, 713, 714, 62, 715] (by decide +kernel) (by decide +kernel), ⟨by decide, by decide, by decide +kernel⟩⟩
theorem sX10_260 : zt_V RX10 260 yX9_look mX9_look 1 := ⟨zt_ins _ [720, 721, 722, 62, 723] (by decide +kernel) (by decide +kernel), ⟨by decide, by decide, by decide +kernel⟩⟩
theorem sX10_267 : zt_V RX10 267 yX1_howManyKnow mX1_howManyKnow 1 := ⟨zt_ins _ [741, 742, 743, 57, 744] (by decide +kernel) (by decide +kernel), ⟨by decide, by decide, by decide +kernel⟩⟩
theorem sX10_270 : zt_X RX10 270 yX10_fractionPart mX10_fractionPart 3 := ⟨zt_ins _ [745, 746, 53, 747] (by decide +kernel) (by decide +kernel), ⟨by decide, by decide, by decide +kernel⟩⟩
theorem sX10_274 : zt_V RX10 274 yX2_play mX2_play 5 := ⟨zt_ins _ [758, 759, 760, 63, 761] (by decide +kernel) (by decide +kernel), ⟨by decide, by decide, by decide +kernel⟩⟩
theorem sX10_280 : zt_V RX10 280 yX3_weightOf mX3_weightOf 2 := ⟨zt_ins _ [781, 782, 783, 56, 784] (by decide +kernel) (by decide +kernel), ⟨by decide, by decide, by decide +kernel⟩⟩
theorem sX10_290 : zt_V RX10 290 yX10_passYear mX10_passYear 1 := ⟨zt_ins _ [796, 798, 16, 53, 799] (by decide +kernel) (by decide +kernel), ⟨by decide, by decide, by decide +kernel⟩⟩
theorem sX10_293 : zt_V RX10 293 yX1_allThatIsKnown mX1_allThatIsKnown 0 := ⟨zt_ins _ [800, 801, 802, 57, 803] (by decide +kernel) (by decide +kernel), ⟨by decide, by decide, by decide +kernel⟩⟩
theorem sX10_296 : zt_X RX10 296 yX10_isSlot mX10_isSlot 1 := ⟨zt_ins _ [809, 810, 53, 811] (by decide +kernel) (by decide +kernel), ⟨by decide, by decide, by decide +kernel⟩⟩
theorem sX10_299 : zt_V RX10 299 yX8_put mX8_put 2 := ⟨zt_ins _ [812, 813, 814, 59, 815] (by decide +kernel) (by decide +kernel), ⟨by decide, by decide, by decide +kernel⟩⟩
theorem sX10_304 : zt_V RX10 304 yX8_holds mX8_holds 1 := ⟨zt_ins _ [822, 823, 824, 59, 825] (by decide +kernel) (by decide +kernel), ⟨by decide, by decide, by decide +kernel⟩⟩
theorem sX10_307 : zt_V RX10 307 yX8_bringBack mX8_bringBack 2 := ⟨zt_ins _ [826, 827, 828, 59, 829] (by decide +kernel) (by decide +kernel), ⟨by decide, by decide, by decide +kernel⟩⟩
theorem sX10_313 : zt_V RX10 313 yX1_knownByAny mX1_knownByAny 0 := ⟨zt_ins _ [836, 837, 838, 57, 839] (by decide +kernel) (by decide +kernel), ⟨by decide, by decide, by decide +kernel⟩⟩
theorem sX10_316 : zt_V RX10 316 yX3_bitsOfAll mX3_bitsOfAll 0 := ⟨zt_ins _ [840, 649, 650, 56, 651] (by decide +kernel) (by decide +kernel), ⟨by decide, by decide, by decide +kernel⟩⟩
theorem sX10_319 : zt_X RX10 319 yX10_commonDivisor mX10_commonDivisor 2 := ⟨zt_ins _ [748, 749, 53, 750] (by decide +kernel) (by decide +kernel), ⟨by decide, by decide, by decide +kernel⟩⟩
theorem sX10_322 : ∀ w ∈ [Cond.methodLink RX10 322 Lib.Math.max.name, Cond.static Lib.Math.max.name, Cond.initialized "java/lang/Math", Cond.code Lib.Math.max.name Lib.Math.max.code 2 (some .int)], w ∈ zt_tb := zt_ins _ [751, 752, 66, 753] (by decide +kernel) (by decide +kernel)
theorem sX11_61 : zt_X RX11 61 yX11_in mX11_in 3 := ⟨zt_ins _ [946, 947, 64, 948] (by decide +kernel) (by decide +kernel), ⟨by decide, by decide, by decide +kernel⟩⟩
theorem sX11_75 : zt_X RX11 75 yX11_has mX11_has 2 := ⟨zt_ins _ [973, 974, 64, 975] (by decide +kernel) (by decide +kernel), ⟨by decide, by decide, by decide +kernel⟩⟩
theorem sX11_88 : zt_V RX11 88 yX11_readPart mX11_readPart 1 := ⟨zt_ins _ [961, 963, 18, 64, 964] (by decide +kernel) (by decide +kernel), ⟨by decide, by decide, by decide +kernel⟩⟩
theorem sX11_92 : zt_V RX11 92 yX11_readOne mX11_readOne 0 := ⟨zt_ins _ [965, 967, 19, 64, 968] (by decide +kernel) (by decide +kernel), ⟨by decide, by decide, by decide +kernel⟩⟩
theorem sX11_95 : zt_V RX11 95 yX11_nextOf mX11_nextOf 3 := ⟨zt_ins _ [969, 971, 20, 64, 972] (by decide +kernel) (by decide +kernel), ⟨by decide, by decide, by decide +kernel⟩⟩
theorem sX11_103 : zt_V RX11 103 yX11_readText mX11_readText 0 := ⟨zt_ins _ [957, 959, 17, 64, 960] (by decide +kernel) (by decide +kernel), ⟨by decide, by decide, by decide +kernel⟩⟩
theorem sX11_118 : zt_V RX11 118 yX11_kilnOf mX11_kilnOf 1 := ⟨zt_ins _ [1026, 1028, 28, 64, 1029] (by decide +kernel) (by decide +kernel), ⟨by decide, by decide, by decide +kernel⟩⟩
theorem sX11_122 : zt_V RX11 122 yX11_isHummock mX11_isHummock 2 := ⟨zt_ins _ [1014, 1016, 27, 64, 1017] (by decide +kernel) (by decide +kernel), ⟨by decide, by decide, by decide +kernel⟩⟩
theorem sX11_128 : zt_V RX11 128 yX11_takeOn mX11_takeOn 2 := ⟨zt_ins _ [1042, 1044, 31, 64, 1045] (by decide +kernel) (by decide +kernel), ⟨by decide, by decide, by decide +kernel⟩⟩
theorem sX11_132 : zt_V RX11 132 yX11_knownAt mX11_knownAt 2 := ⟨zt_ins _ [1046, 1048, 32, 64, 1049] (by decide +kernel) (by decide +kernel), ⟨by decide, by decide, by decide +kernel⟩⟩
theorem sX11_136 : zt_V RX11 136 yX11_isTramp mX11_isTramp 1 := ⟨zt_ins _ [1006, 1008, 25, 64, 1009] (by decide +kernel) (by decide +kernel), ⟨by decide, by decide, by decide +kernel⟩⟩
theorem sX11_140 : zt_X RX11 140 yX11_isPlace mX11_isPlace 1 := ⟨zt_ins _ [1022, 1023, 64, 1024] (by decide +kernel) (by decide +kernel), ⟨by decide, by decide, by decide +kernel⟩⟩
theorem sX11_143 : zt_X RX11 143 yX11_far mX11_far 2 := ⟨zt_ins _ [1065, 1066, 64, 1067] (by decide +kernel) (by decide +kernel), ⟨by decide, by decide, by decide +kernel⟩⟩
theorem sX11_146 : zt_V RX11 146 yX11_speedOf mX11_speedOf 2 := ⟨zt_ins _ [1010, 1012, 26, 64, 1013] (by decide +kernel) (by decide +kernel), ⟨by decide, by decide, by decide +kernel⟩⟩
theorem sX11_149 : zt_V RX11 149 yX11_isKiln mX11_isKiln 1 := ⟨zt_ins _ [986, 988, 21, 64, 989] (by decide +kernel) (by decide +kernel), ⟨by decide, by decide, by decide +kernel⟩⟩
theorem sX11_152 : zt_V RX11 152 yX11_setOf mX11_setOf 1 := ⟨zt_ins _ [990, 992, 22, 64, 993] (by decide +kernel) (by decide +kernel), ⟨by decide, by decide, by decide +kernel⟩⟩
theorem sX11_155 : zt_V RX11 155 yX11_figuresOf mX11_figuresOf 1 := ⟨zt_ins _ [994, 996, 23, 64, 997] (by decide +kernel) (by decide +kernel), ⟨by decide, by decide, by decide +kernel⟩⟩
theorem sX11_158 : zt_V RX11 158 yX11_trampsAt mX11_trampsAt 1 := ⟨zt_ins _ [998, 1000, 24, 64, 1001] (by decide +kernel) (by decide +kernel), ⟨by decide, by decide, by decide +kernel⟩⟩
theorem sX11_164 : zt_V RX11 164 yX11_keepAct mX11_keepAct 0 := ⟨zt_ins _ [1034, 1036, 29, 64, 1037] (by decide +kernel) (by decide +kernel), ⟨by decide, by decide, by decide +kernel⟩⟩
theorem sX11_167 : zt_V RX11 167 yX11_passOn mX11_passOn 1 := ⟨zt_ins _ [1038, 1040, 30, 64, 1041] (by decide +kernel) (by decide +kernel), ⟨by decide, by decide, by decide +kernel⟩⟩
theorem sX11_170 : zt_V RX11 170 yX11_hummocksOn mX11_hummocksOn 1 := ⟨zt_ins _ [1050, 1052, 33, 64, 1053] (by decide +kernel) (by decide +kernel), ⟨by decide, by decide, by decide +kernel⟩⟩
theorem sX11_173 : zt_X RX11 173 yX11_ones mX11_ones 1 := ⟨zt_ins _ [1054, 1055, 64, 1056] (by decide +kernel) (by decide +kernel), ⟨by decide, by decide, by decide +kernel⟩⟩
theorem sX11_176 : zt_V RX11 176 yX11_canWalk mX11_canWalk 3 := ⟨zt_ins _ [1061, 1063, 34, 64, 1064] (by decide +kernel) (by decide +kernel), ⟨by decide, by decide, by decide +kernel⟩⟩
theorem sX11_180 : zt_V RX11 180 yX11_walkOn mX11_walkOn 3 := ⟨zt_ins _ [1068, 1070, 35, 64, 1071] (by decide +kernel) (by decide +kernel), ⟨by decide, by decide, by decide +kernel⟩⟩
theorem sX11_184 : zt_V RX11 184 yX11_canTell mX11_canTell 3 := ⟨zt_ins _ [1076, 1078, 36, 64, 1079] (by decide +kernel) (by decide +kernel), ⟨by decide, by decide, by decide +kernel⟩⟩
theorem sX11_187 : zt_V RX11 187 yX11_tellOn mX11_tellOn 3 := ⟨zt_ins _ [1080, 1082, 37, 64, 1083] (by decide +kernel) (by decide +kernel), ⟨by decide, by decide, by decide +kernel⟩⟩
theorem sX11_190 : zt_V RX11 190 yX11_washOn mX11_washOn 2 := ⟨zt_ins _ [1088, 1090, 38, 64, 1091] (by decide +kernel) (by decide +kernel), ⟨by decide, by decide, by decide +kernel⟩⟩
theorem sX11_195 : zt_V RX11 195 yX11_layTrial mX11_layTrial 0 := ⟨zt_ins _ [1101, 1103, 39, 64, 1104] (by decide +kernel) (by decide +kernel), ⟨by decide, by decide, by decide +kernel⟩⟩
theorem sX11_198 : zt_X RX11 198 yX11_tenTo mX11_tenTo 1 := ⟨zt_ins _ [1114, 1115, 64, 1116] (by decide +kernel) (by decide +kernel), ⟨by decide, by decide, by decide +kernel⟩⟩
theorem sX11_203 : zt_V RX11 203 yX11_knowsBy mX11_knowsBy 4 := ⟨zt_ins _ [1117, 1119, 40, 64, 1120] (by decide +kernel) (by decide +kernel), ⟨by decide, by decide, by decide +kernel⟩⟩
theorem sX11_207 : zt_V RX11 207 yX11_allLayers mX11_allLayers 0 := ⟨zt_ins _ [1129, 1131, 42, 64, 1132] (by decide +kernel) (by decide +kernel), ⟨by decide, by decide, by decide +kernel⟩⟩
theorem sX11_218 : zt_V RX11 218 yX11_orderOf mX11_orderOf 4 := ⟨zt_ins _ [1133, 1135, 43, 64, 1136] (by decide +kernel) (by decide +kernel), ⟨by decide, by decide, by decide +kernel⟩⟩
theorem sX11_222 : zt_V RX11 222 yX11_isOrder mX11_isOrder 2 := ⟨zt_ins _ [1137, 1139, 44, 64, 1140] (by decide +kernel) (by decide +kernel), ⟨by decide, by decide, by decide +kernel⟩⟩
theorem sX11_225 : zt_V RX11 225 yX11_countOrders mX11_countOrders 0 := ⟨zt_ins _ [1125, 1127, 41, 64, 1128] (by decide +kernel) (by decide +kernel), ⟨by decide, by decide, by decide +kernel⟩⟩
theorem sX11_234 : zt_X RX11 234 yX11_thousandTo mX11_thousandTo 1 := ⟨zt_ins _ [1147, 1148, 64, 1149] (by decide +kernel) (by decide +kernel), ⟨by decide, by decide, by decide +kernel⟩⟩
theorem sX11_238 : zt_V RX11 238 yX11_tryThing mX11_tryThing 3 := ⟨zt_ins _ [1151, 1153, 45, 64, 1154] (by decide +kernel) (by decide +kernel), ⟨by decide, by decide, by decide +kernel⟩⟩
theorem sX11_244 : zt_V RX11 244 yX11_upperOf mX11_upperOf 2 := ⟨zt_ins _ [1168, 1170, 46, 64, 1171] (by decide +kernel) (by decide +kernel), ⟨by decide, by decide, by decide +kernel⟩⟩
theorem sX11_247 : zt_X RX11 247 yX11_factorial mX11_factorial 1 := ⟨zt_ins _ [1176, 1177, 64, 1178] (by decide +kernel) (by decide +kernel), ⟨by decide, by decide, by decide +kernel⟩⟩
theorem sX11_250 : zt_V RX11 250 yX11_knownBy mX11_knownBy 1 := ⟨zt_ins _ [1179, 1181, 47, 64, 1182] (by decide +kernel) (by decide +kernel), ⟨by decide, by decide, by decide +kernel⟩⟩
theorem sX11_253 : zt_X RX11 253 yX11_common mX11_common 2 := ⟨zt_ins _ [1183, 1184, 64, 1185] (by decide +kernel) (by decide +kernel), ⟨by decide, by decide, by decide +kernel⟩⟩
theorem sX11_256 : zt_V RX11 256 yX11_goTo mX11_goTo 2 := ⟨zt_ins _ [1198, 1200, 50, 64, 1201] (by decide +kernel) (by decide +kernel), ⟨by decide, by decide, by decide +kernel⟩⟩
theorem sX11_259 : zt_V RX11 259 yX11_gain mX11_gain 5 := ⟨zt_ins _ [1194, 1196, 49, 64, 1197] (by decide +kernel) (by decide +kernel), ⟨by decide, by decide, by decide +kernel⟩⟩
theorem sX11_263 : zt_V RX11 263 yX11_isRest mX11_isRest 4 := ⟨zt_ins _ [1190, 1192, 48, 64, 1193] (by decide +kernel) (by decide +kernel), ⟨by decide, by decide, by decide +kernel⟩⟩
theorem sX11_280 : zt_V RX11 280 yX11_knownOfAll mX11_knownOfAll 0 := ⟨zt_ins _ [1219, 1221, 51, 64, 1222] (by decide +kernel) (by decide +kernel), ⟨by decide, by decide, by decide +kernel⟩⟩
theorem sL_13 : zt_V RL 13 yX10_write mX10_write 1 := ⟨zt_ins _ [356, 357, 358, 53, 359] (by decide +kernel) (by decide +kernel), ⟨by decide, by decide, by decide +kernel⟩⟩
theorem sL_17 : zt_V RL 17 yX11_write mX11_write 1 := ⟨zt_ins _ [941, 942, 943, 64, 944] (by decide +kernel) (by decide +kernel), ⟨by decide, by decide, by decide +kernel⟩⟩
theorem sL_18 : zt_V RL 18 yX10_wipe mX10_wipe 0 := ⟨zt_ins _ [364, 365, 366, 53, 367] (by decide +kernel) (by decide +kernel), ⟨by decide, by decide, by decide +kernel⟩⟩
theorem sL_22 : zt_V RL 22 yX11_wipe mX11_wipe 0 := ⟨zt_ins _ [949, 950, 951, 64, 952] (by decide +kernel) (by decide +kernel), ⟨by decide, by decide, by decide +kernel⟩⟩
theorem sL_23 : zt_V RL 23 yX10_fault mX10_fault 0 := ⟨zt_ins _ [368, 369, 370, 53, 371] (by decide +kernel) (by decide +kernel), ⟨by decide, by decide, by decide +kernel⟩⟩
theorem sL_26 : zt_V RL 26 yX11_fault mX11_fault 0 := ⟨zt_ins _ [953, 954, 955, 64, 956] (by decide +kernel) (by decide +kernel), ⟨by decide, by decide, by decide +kernel⟩⟩
theorem sL_27 : zt_V RL 27 yX10_hill mX10_hill 0 := ⟨zt_ins _ [435, 436, 437, 53, 438] (by decide +kernel) (by decide +kernel), ⟨by decide, by decide, by decide +kernel⟩⟩
theorem sL_30 : zt_V RL 30 yX11_hill mX11_hill 0 := ⟨zt_ins _ [978, 979, 980, 64, 981] (by decide +kernel) (by decide +kernel), ⟨by decide, by decide, by decide +kernel⟩⟩
theorem sL_31 : zt_V RL 31 yX10_kiln mX10_kiln 2 := ⟨zt_ins _ [458, 459, 460, 53, 461] (by decide +kernel) (by decide +kernel), ⟨by decide, by decide, by decide +kernel⟩⟩
theorem sL_35 : zt_V RL 35 yX11_kiln mX11_kiln 2 := ⟨zt_ins _ [982, 983, 984, 64, 985] (by decide +kernel) (by decide +kernel), ⟨by decide, by decide, by decide +kernel⟩⟩
theorem sL_36 : zt_V RL 36 yX10_tramp mX10_tramp 2 := ⟨zt_ins _ [472, 473, 474, 53, 475] (by decide +kernel) (by decide +kernel), ⟨by decide, by decide, by decide +kernel⟩⟩
theorem sL_39 : zt_V RL 39 yX11_tramp mX11_tramp 2 := ⟨zt_ins _ [1002, 1003, 1004, 64, 1005] (by decide +kernel) (by decide +kernel), ⟨by decide, by decide, by decide +kernel⟩⟩
theorem sL_40 : zt_V RL 40 yX10_at mX10_at 1 := ⟨zt_ins _ [492, 493, 494, 53, 495] (by decide +kernel) (by decide +kernel), ⟨by decide, by decide, by decide +kernel⟩⟩
theorem sL_43 : zt_V RL 43 yX11_at mX11_at 1 := ⟨zt_ins _ [1018, 1019, 1020, 64, 1021] (by decide +kernel) (by decide +kernel), ⟨by decide, by decide, by decide +kernel⟩⟩
theorem sL_44 : zt_V RL 44 yX10_night mX10_night 0 := ⟨zt_ins _ [498, 499, 500, 53, 501] (by decide +kernel) (by decide +kernel), ⟨by decide, by decide, by decide +kernel⟩⟩
theorem sL_47 : zt_V RL 47 yX11_night mX11_night 0 := ⟨zt_ins _ [1030, 1031, 1032, 64, 1033] (by decide +kernel) (by decide +kernel), ⟨by decide, by decide, by decide +kernel⟩⟩
theorem sL_48 : zt_V RL 48 yX10_walk mX10_walk 2 := ⟨zt_ins _ [543, 544, 545, 53, 546] (by decide +kernel) (by decide +kernel), ⟨by decide, by decide, by decide +kernel⟩⟩
theorem sL_51 : zt_V RL 51 yX11_walk mX11_walk 2 := ⟨zt_ins _ [1057, 1058, 1059, 64, 1060] (by decide +kernel) (by decide +kernel), ⟨by decide, by decide, by decide +kernel⟩⟩
theorem sL_52 : zt_V RL 52 yX10_tell mX10_tell 2 := ⟨zt_ins _ [563, 564, 565, 53, 566] (by decide +kernel) (by decide +kernel), ⟨by decide, by decide, by decide +kernel⟩⟩
theorem sL_55 : zt_V RL 55 yX11_tell mX11_tell 2 := ⟨zt_ins _ [1072, 1073, 1074, 64, 1075] (by decide +kernel) (by decide +kernel), ⟨by decide, by decide, by decide +kernel⟩⟩
theorem sL_56 : zt_V RL 56 yX10_wash mX10_wash 1 := ⟨zt_ins _ [575, 576, 577, 53, 578] (by decide +kernel) (by decide +kernel), ⟨by decide, by decide, by decide +kernel⟩⟩
theorem sL_59 : zt_V RL 59 yX11_wash mX11_wash 1 := ⟨zt_ins _ [1084, 1085, 1086, 64, 1087] (by decide +kernel) (by decide +kernel), ⟨by decide, by decide, by decide +kernel⟩⟩
theorem sL_60 : zt_V RL 60 yX10_undo mX10_undo 0 := ⟨zt_ins _ [587, 588, 589, 53, 590] (by decide +kernel) (by decide +kernel), ⟨by decide, by decide, by decide +kernel⟩⟩
theorem sL_63 : zt_V RL 63 yX11_undo mX11_undo 0 := ⟨zt_ins _ [1092, 1093, 1094, 64, 1095] (by decide +kernel) (by decide +kernel), ⟨by decide, by decide, by decide +kernel⟩⟩
theorem sL_64 : zt_V RL 64 yX10_later mX10_later 3 := ⟨zt_ins _ [599, 600, 601, 53, 602] (by decide +kernel) (by decide +kernel), ⟨by decide, by decide, by decide +kernel⟩⟩
theorem sL_68 : zt_V RL 68 yX11_later mX11_later 3 := ⟨zt_ins _ [1096, 1097, 1098, 64, 1099] (by decide +kernel) (by decide +kernel), ⟨by decide, by decide, by decide +kernel⟩⟩
theorem sL_69 : zt_V RL 69 yX10_hummock mX10_hummock 1 := ⟨zt_ins _ [606, 607, 608, 53, 609] (by decide +kernel) (by decide +kernel), ⟨by decide, by decide, by decide +kernel⟩⟩
theorem sL_72 : zt_V RL 72 yX11_hummock mX11_hummock 1 := ⟨zt_ins _ [1105, 1106, 1107, 64, 1108] (by decide +kernel) (by decide +kernel), ⟨by decide, by decide, by decide +kernel⟩⟩
theorem sL_73 : zt_V RL 73 yX10_soon mX10_soon 3 := ⟨zt_ins _ [610, 611, 612, 53, 613] (by decide +kernel) (by decide +kernel), ⟨by decide, by decide, by decide +kernel⟩⟩
theorem sL_76 : zt_V RL 76 yX11_soon mX11_soon 3 := ⟨zt_ins _ [1109, 1110, 1111, 64, 1112] (by decide +kernel) (by decide +kernel), ⟨by decide, by decide, by decide +kernel⟩⟩
theorem sL_77 : zt_V RL 77 yX10_beneath mX10_beneath 1 := ⟨zt_ins _ [640, 641, 642, 53, 643] (by decide +kernel) (by decide +kernel), ⟨by decide, by decide, by decide +kernel⟩⟩
theorem sL_80 : zt_V RL 80 yX11_beneath mX11_beneath 1 := ⟨zt_ins _ [1121, 1122, 1123, 64, 1124] (by decide +kernel) (by decide +kernel), ⟨by decide, by decide, by decide +kernel⟩⟩
theorem sL_83 : zt_V RL 83 yX10_judge mX10_judge 2 := ⟨zt_ins _ [673, 674, 675, 53, 676] (by decide +kernel) (by decide +kernel), ⟨by decide, by decide, by decide +kernel⟩⟩
theorem sL_87 : zt_V RL 87 yX11_judge mX11_judge 2 := ⟨zt_ins _ [1142, 1143, 1144, 64, 1145] (by decide +kernel) (by decide +kernel), ⟨by decide, by decide, by decide +kernel⟩⟩
theorem sL_88 : zt_V RL 88 yX10_knew mX10_knew 2 := ⟨zt_ins _ [700, 701, 702, 53, 703] (by decide +kernel) (by decide +kernel), ⟨by decide, by decide, by decide +kernel⟩⟩
theorem sL_91 : zt_V RL 91 yX11_knew mX11_knew 2 := ⟨zt_ins _ [1156, 1157, 1158, 64, 1159] (by decide +kernel) (by decide +kernel), ⟨by decide, by decide, by decide +kernel⟩⟩
theorem sL_92 : zt_V RL 92 yX10_unknew mX10_unknew 0 := ⟨zt_ins _ [708, 709, 710, 53, 711] (by decide +kernel) (by decide +kernel), ⟨by decide, by decide, by decide +kernel⟩⟩
theorem sL_95 : zt_V RL 95 yX11_unknew mX11_unknew 0 := ⟨zt_ins _ [1160, 1161, 1162, 64, 1163] (by decide +kernel) (by decide +kernel), ⟨by decide, by decide, by decide +kernel⟩⟩
theorem sL_96 : zt_V RL 96 yX10_lay mX10_lay 1 := ⟨zt_ins _ [716, 717, 718, 53, 719] (by decide +kernel) (by decide +kernel), ⟨by decide, by decide, by decide +kernel⟩⟩
theorem sL_99 : zt_V RL 99 yX11_lay mX11_lay 1 := ⟨zt_ins _ [1164, 1165, 1166, 64, 1167] (by decide +kernel) (by decide +kernel), ⟨by decide, by decide, by decide +kernel⟩⟩
theorem sL_100 : zt_V RL 100 yX10_share mX10_share 2 := ⟨zt_ins _ [737, 738, 739, 53, 740] (by decide +kernel) (by decide +kernel), ⟨by decide, by decide, by decide +kernel⟩⟩
theorem sL_104 : zt_V RL 104 yX11_share mX11_share 2 := ⟨zt_ins _ [1172, 1173, 1174, 64, 1175] (by decide +kernel) (by decide +kernel), ⟨by decide, by decide, by decide +kernel⟩⟩
theorem sL_105 : zt_V RL 105 yX10_rests mX10_rests 3 := ⟨zt_ins _ [754, 755, 756, 53, 757] (by decide +kernel) (by decide +kernel), ⟨by decide, by decide, by decide +kernel⟩⟩
theorem sL_108 : zt_V RL 108 yX11_rests mX11_rests 3 := ⟨zt_ins _ [1186, 1187, 1188, 64, 1189] (by decide +kernel) (by decide +kernel), ⟨by decide, by decide, by decide +kernel⟩⟩
theorem sL_109 : zt_V RL 109 yX10_cold mX10_cold 4 := ⟨zt_ins _ [777, 778, 779, 53, 780] (by decide +kernel) (by decide +kernel), ⟨by decide, by decide, by decide +kernel⟩⟩
theorem sL_113 : zt_V RL 113 yX11_cold mX11_cold 4 := ⟨zt_ins _ [1202, 1203, 1204, 64, 1205] (by decide +kernel) (by decide +kernel), ⟨by decide, by decide, by decide +kernel⟩⟩
theorem sL_114 : zt_V RL 114 yX10_seed mX10_seed 1 := ⟨zt_ins _ [785, 786, 787, 53, 788] (by decide +kernel) (by decide +kernel), ⟨by decide, by decide, by decide +kernel⟩⟩
theorem sL_118 : zt_V RL 118 yX11_seed mX11_seed 1 := ⟨zt_ins _ [1207, 1208, 1209, 64, 1210] (by decide +kernel) (by decide +kernel), ⟨by decide, by decide, by decide +kernel⟩⟩
theorem sL_119 : zt_V RL 119 yX10_years mX10_years 1 := ⟨zt_ins _ [789, 790, 791, 53, 792] (by decide +kernel) (by decide +kernel), ⟨by decide, by decide, by decide +kernel⟩⟩
theorem sL_122 : zt_V RL 122 yX11_years mX11_years 1 := ⟨zt_ins _ [1211, 1212, 1213, 64, 1214] (by decide +kernel) (by decide +kernel), ⟨by decide, by decide, by decide +kernel⟩⟩
theorem sL_123 : zt_V RL 123 yX10_keep mX10_keep 1 := ⟨zt_ins _ [805, 806, 807, 53, 808] (by decide +kernel) (by decide +kernel), ⟨by decide, by decide, by decide +kernel⟩⟩
theorem sL_126 : zt_V RL 126 yX11_keep mX11_keep 1 := ⟨zt_ins _ [1223, 1224, 1225, 64, 1226] (by decide +kernel) (by decide +kernel), ⟨by decide, by decide, by decide +kernel⟩⟩
theorem sL_127 : zt_V RL 127 yX10_again mX10_again 1 := ⟨zt_ins _ [818, 819, 820, 53, 821] (by decide +kernel) (by decide +kernel), ⟨by decide, by decide, by decide +kernel⟩⟩
theorem sL_130 : zt_V RL 130 yX11_again mX11_again 1 := ⟨zt_ins _ [1227, 1228, 1229, 64, 1230] (by decide +kernel) (by decide +kernel), ⟨by decide, by decide, by decide +kernel⟩⟩
theorem sL_131 : zt_V RL 131 yX10_count mX10_count 1 := ⟨zt_ins _ [832, 833, 834, 53, 835] (by decide +kernel) (by decide +kernel), ⟨by decide, by decide, by decide +kernel⟩⟩
theorem sL_134 : zt_V RL 134 yX11_count mX11_count 1 := ⟨zt_ins _ [1231, 1232, 1233, 64, 1234] (by decide +kernel) (by decide +kernel), ⟨by decide, by decide, by decide +kernel⟩⟩
