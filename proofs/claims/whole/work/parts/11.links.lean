abbrev mX0_init : MI := (yX0_init, cX0_init, 1, (none : Option FieldType), [])
abbrev mX0_clear : MI := (yX0_clear, cX0_clear, 1, (none : Option FieldType), [])
abbrev mX0_copyFrom : MI := (yX0_copyFrom, cX0_copyFrom, 2, (none : Option FieldType), [])
abbrev mX0_keep : MI := (yX0_keep, cX0_keep, 2, (none : Option FieldType), [])
abbrev mX0_takeBack : MI := (yX0_takeBack, cX0_takeBack, 2, (some FieldType.int), [])
abbrev mX1_init : MI := (yX1_init, cX1_init, 1, (none : Option FieldType), [])
abbrev mX1_clear : MI := (yX1_clear, cX1_clear, 1, (none : Option FieldType), [])
abbrev mX1_putCode : MI := (yX1_putCode, cX1_putCode, 2, (none : Option FieldType), [])
abbrev mX2_init : MI := (yX2_init, cX2_init, 1, (none : Option FieldType), [])
abbrev mX2_isFull : MI := (yX2_isFull, cX2_isFull, 1, (some FieldType.boolean), [])
abbrev mX2_clear : MI := (yX2_clear, cX2_clear, 1, (none : Option FieldType), [])
abbrev mX2_put : MI := (yX2_put, cX2_put, 4, (none : Option FieldType), [])
abbrev mX2_copyFrom : MI := (yX2_copyFrom, cX2_copyFrom, 2, (none : Option FieldType), [])
abbrev mX2_hold : MI := (yX2_hold, cX2_hold, 4, (some FieldType.boolean), [])
abbrev mX2_lastDay : MI := (yX2_lastDay, cX2_lastDay, 3, (some FieldType.int), [])
abbrev mX2_holdBehind : MI := (yX2_holdBehind, cX2_holdBehind, 4, (some FieldType.boolean), [])
abbrev mX3_init : MI := (yX3_init, cX3_init, 1, (none : Option FieldType), [])
abbrev mX3_begin : MI := (yX3_begin, cX3_begin, 4, (none : Option FieldType), [])
abbrev mX3_hasMore : MI := (yX3_hasMore, cX3_hasMore, 1, (some FieldType.boolean), [])
abbrev mX3_fail : MI := (yX3_fail, cX3_fail, 2, (some FieldType.boolean), [])
abbrev mX3_next : MI := (yX3_next, cX3_next, 1, (none : Option FieldType), [])
abbrev mX3_nextWord : MI := (yX3_nextWord, cX3_nextWord, 1, (none : Option FieldType), [])
abbrev mX3_nextNumber : MI := (yX3_nextNumber, cX3_nextNumber, 1, (none : Option FieldType), [])
abbrev mX3_isWord : MI := (yX3_isWord, cX3_isWord, 3, (some FieldType.boolean), [])
abbrev mX3_isSign : MI := (yX3_isSign, cX3_isSign, 2, (some FieldType.boolean), [])
abbrev mX3_line : MI := (yX3_line, cX3_line, 1, (some FieldType.boolean), [])
abbrev mX3_lineEnd : MI := (yX3_lineEnd, cX3_lineEnd, 1, (some FieldType.boolean), [])
abbrev mX3_nextIsNumber : MI := (yX3_nextIsNumber, cX3_nextIsNumber, 1, (some FieldType.boolean), [])
abbrev mX3_isFitNumber : MI := (yX3_isFitNumber, cX3_isFitNumber, 1, (some FieldType.boolean), [])
abbrev mX3_nextIsWithin : MI := (yX3_nextIsWithin, cX3_nextIsWithin, 3, (some FieldType.boolean), [])
abbrev mX3_placesLine : MI := (yX3_placesLine, cX3_placesLine, 1, (some FieldType.boolean), [])
abbrev mX3_termLine : MI := (yX3_termLine, cX3_termLine, 1, (some FieldType.boolean), [])
abbrev mX3_personLine : MI := (yX3_personLine, cX3_personLine, 5, (some FieldType.boolean), [])
abbrev mX3_isFitPlace : MI := (yX3_isFitPlace, cX3_isFitPlace, 2, (some FieldType.boolean), [])
abbrev mX3_nextIsPerson : MI := (yX3_nextIsPerson, cX3_nextIsPerson, 1, (some FieldType.boolean), [])
abbrev mX3_thingLine : MI := (yX3_thingLine, cX3_thingLine, 2, (some FieldType.boolean), [])
abbrev mX3_ruleLine : MI := (yX3_ruleLine, cX3_ruleLine, 5, (some FieldType.boolean), [])
abbrev mX3_beginRule : MI := (yX3_beginRule, cX3_beginRule, 1, (none : Option FieldType), [])
abbrev mX3_part : MI := (yX3_part, cX3_part, 3, (some FieldType.boolean), [])
abbrev mX3_wordOfPart : MI := (yX3_wordOfPart, cX3_wordOfPart, 3, (some FieldType.boolean), [])
abbrev mX3_valueOfShames : MI := (yX3_valueOfShames, cX3_valueOfShames, 1, (some FieldType.int), [])
abbrev mX3_valueOfReturns : MI := (yX3_valueOfReturns, cX3_valueOfReturns, 1, (some FieldType.int), [])
abbrev mX3_putPart : MI := (yX3_putPart, cX3_putPart, 2, (some FieldType.boolean), [])
abbrev mX3_behindPart : MI := (yX3_behindPart, cX3_behindPart, 3, (some FieldType.boolean), [])
abbrev mX3_close : MI := (yX3_close, cX3_close, 1, (some FieldType.boolean), [])
abbrev mX3_operatorRead : MI := (yX3_operatorRead, cX3_operatorRead, 1, (some FieldType.int), [])
abbrev mX3_await : MI := (yX3_await, cX3_await, 2, (some FieldType.boolean), [])
abbrev mX3_bindingOnTop : MI := (yX3_bindingOnTop, cX3_bindingOnTop, 1, (some FieldType.int), [])
abbrev mX3_putTighter : MI := (yX3_putTighter, cX3_putTighter, 3, (none : Option FieldType), [])
abbrev mX4_init : MI := (yX4_init, cX4_init, 1, (none : Option FieldType), [])
abbrev mX4_isTold : MI := (yX4_isTold, cX4_isTold, 1, (some FieldType.boolean), [])
abbrev mX4_result : MI := (yX4_result, cX4_result, 9, (some FieldType.int), [])
abbrev mX4_two : MI := (yX4_two, cX4_two, 3, (some FieldType.int), [])
abbrev mX5_init : MI := (yX5_init, cX5_init, 1, (none : Option FieldType), [])
abbrev mX5_rings : MI := (yX5_rings, cX5_rings, 4, (some FieldType.int), [])
abbrev mX5_cameTo : MI := (yX5_cameTo, cX5_cameTo, 6, (some FieldType.int), [])
abbrev mX5_ownersOf : MI := (yX5_ownersOf, cX5_ownersOf, 4, (some FieldType.int), [])
abbrev mX5_fewestPlaces : MI := (yX5_fewestPlaces, cX5_fewestPlaces, 6, (some FieldType.int), [])
abbrev mX5_placesOf : MI := (yX5_placesOf, cX5_placesOf, 5, (some FieldType.int), [])
abbrev mX5_meetsAll : MI := (yX5_meetsAll, cX5_meetsAll, 4, (some FieldType.boolean), [])
abbrev mX5_busiest : MI := (yX5_busiest, cX5_busiest, 7, (some FieldType.int), [])
abbrev mX5_visits : MI := (yX5_visits, cX5_visits, 6, (some FieldType.int), [])
abbrev mX5_leastShame : MI := (yX5_leastShame, cX5_leastShame, 3, (some FieldType.int), [])
abbrev mX5_listWorn : MI := (yX5_listWorn, cX5_listWorn, 3, (none : Option FieldType), [])
abbrev mX5_fillLeft : MI := (yX5_fillLeft, cX5_fillLeft, 5, (none : Option FieldType), [])
abbrev mX5_canGo : MI := (yX5_canGo, cX5_canGo, 4, (some FieldType.boolean), [])
abbrev mX5_costWith : MI := (yX5_costWith, cX5_costWith, 5, (some FieldType.int), [])
abbrev mX5_goesTo : MI := (yX5_goesTo, cX5_goesTo, 6, (some FieldType.int), [])
abbrev mX5_firstOf : MI := (yX5_firstOf, cX5_firstOf, 5, (some FieldType.int), [])
abbrev mX6_init : MI := (yX6_init, cX6_init, 1, (none : Option FieldType), [])
abbrev mX6_begin : MI := (yX6_begin, cX6_begin, 2, (none : Option FieldType), [])
abbrev mX6_copyFrom : MI := (yX6_copyFrom, cX6_copyFrom, 2, (none : Option FieldType), [])
abbrev mX6_copyRow : MI := (yX6_copyRow, cX6_copyRow, 2, (none : Option FieldType), [])
abbrev mX6_pack : MI := (yX6_pack, cX6_pack, 6, (none : Option FieldType), [])
abbrev mX6_unpack : MI := (yX6_unpack, cX6_unpack, 6, (none : Option FieldType), [])
abbrev mX6_passDay : MI := (yX6_passDay, cX6_passDay, 3, (none : Option FieldType), [])
abbrev mX6_countWorn : MI := (yX6_countWorn, cX6_countWorn, 2, (none : Option FieldType), [])
abbrev mX6_wearForADay : MI := (yX6_wearForADay, cX6_wearForADay, 4, (none : Option FieldType), [])
abbrev mX6_shameToday : MI := (yX6_shameToday, cX6_shameToday, 3, (some FieldType.int), [])
abbrev mX6_shameBy : MI := (yX6_shameBy, cX6_shameBy, 6, (some FieldType.int), [])
abbrev mX6_givesBack : MI := (yX6_givesBack, cX6_givesBack, 2, (some FieldType.boolean), [])
abbrev mX6_maySteal : MI := (yX6_maySteal, cX6_maySteal, 3, (some FieldType.boolean), [])
abbrev mX6_putOn : MI := (yX6_putOn, cX6_putOn, 3, (none : Option FieldType), [])
abbrev mX6_putOffAll : MI := (yX6_putOffAll, cX6_putOffAll, 3, (none : Option FieldType), [])
abbrev mX6_standAlways : MI := (yX6_standAlways, cX6_standAlways, 4, (none : Option FieldType), [])
abbrev mX6_placeOn : MI := (yX6_placeOn, cX6_placeOn, 4, (some FieldType.int), [])
abbrev mX6_lookAround : MI := (yX6_lookAround, cX6_lookAround, 3, (none : Option FieldType), [])
abbrev mX6_lookersAt : MI := (yX6_lookersAt, cX6_lookersAt, 3, (some FieldType.int), [])
abbrev mX6_lookersOn : MI := (yX6_lookersOn, cX6_lookersOn, 3, (some FieldType.int), [])
abbrev mX6_firstTogether : MI := (yX6_firstTogether, cX6_firstTogether, 4, (some FieldType.int), [])
abbrev mX6_unseen : MI := (yX6_unseen, cX6_unseen, 4, (some FieldType.int), [])
abbrev mX6_isSeen : MI := (yX6_isSeen, cX6_isSeen, 4, (some FieldType.boolean), [])
abbrev mX6_wornBits : MI := (yX6_wornBits, cX6_wornBits, 3, (some FieldType.int), [])
abbrev mX6_wearsBits : MI := (yX6_wearsBits, cX6_wearsBits, 4, (some FieldType.int), [])
abbrev mX6_ownsBits : MI := (yX6_ownsBits, cX6_ownsBits, 4, (some FieldType.int), [])
abbrev mX6_missed : MI := (yX6_missed, cX6_missed, 2, (some FieldType.int), [])
abbrev mX6_load : MI := (yX6_load, cX6_load, 2, (some FieldType.int), [])
abbrev mX6_wealth : MI := (yX6_wealth, cX6_wealth, 2, (some FieldType.int), [])
abbrev mX6_weightOf : MI := (yX6_weightOf, cX6_weightOf, 4, (some FieldType.int), [])
abbrev mX6_oddest : MI := (yX6_oddest, cX6_oddest, 4, (some FieldType.int), [])
abbrev mX6_richest : MI := (yX6_richest, cX6_richest, 3, (some FieldType.int), [])
abbrev mX6_mostAshamed : MI := (yX6_mostAshamed, cX6_mostAshamed, 3, (some FieldType.int), [])
abbrev mX6_shameOfAll : MI := (yX6_shameOfAll, cX6_shameOfAll, 3, (some FieldType.int), [])
abbrev mX7_init : MI := (yX7_init, cX7_init, 1, (none : Option FieldType), [])
abbrev mX7_start : MI := (yX7_start, cX7_start, 2, (none : Option FieldType), [])
abbrev mX7_behind : MI := (yX7_behind, cX7_behind, 3, (some (FieldType.object "WornThings$Town")), [])
abbrev mX7_passDays : MI := (yX7_passDays, cX7_passDays, 3, (none : Option FieldType), [])
abbrev mX7_endOfWearing : MI := (yX7_endOfWearing, cX7_endOfWearing, 5, (some FieldType.int), [])
abbrev mX7_bestPlace : MI := (yX7_bestPlace, cX7_bestPlace, 9, (some FieldType.int), [])
abbrev mX7_bestThing : MI := (yX7_bestThing, cX7_bestThing, 8, (some FieldType.int), [])
abbrev mX7_isSooner : MI := (yX7_isSooner, cX7_isSooner, 2, (some FieldType.boolean), [])
abbrev mX7_daysToShame : MI := (yX7_daysToShame, cX7_daysToShame, 4, (some FieldType.int), [])
abbrev mX7_neverWorn : MI := (yX7_neverWorn, cX7_neverWorn, 4, (some FieldType.int), [])
abbrev mX7_inFog : MI := (yX7_inFog, cX7_inFog, 10, (some FieldType.int), [])
abbrev mX7_play : MI := (yX7_play, cX7_play, 5, (none : Option FieldType), [])
abbrev mX7_gain : MI := (yX7_gain, cX7_gain, 2, (some FieldType.int), [])
abbrev mX7_rests : MI := (yX7_rests, cX7_rests, 2, (some FieldType.boolean), [])
abbrev mX7_couplesAtRest : MI := (yX7_couplesAtRest, cX7_couplesAtRest, 3, (some FieldType.int), [])
abbrev mX7_firstCoupleAtRest : MI := (yX7_firstCoupleAtRest, cX7_firstCoupleAtRest, 2, (some FieldType.int), [])
abbrev mX7_drawYears : MI := (yX7_drawYears, cX7_drawYears, 6, (some (FieldType.object "WornThings$Town")), [])
abbrev mX7_happen : MI := (yX7_happen, cX7_happen, 4, (none : Option FieldType), [])
abbrev mX7_draw : MI := (yX7_draw, cX7_draw, 2, (some FieldType.int), [])
abbrev mX8_init : MI := (yX8_init, cX8_init, 1, (none : Option FieldType), [])
abbrev mX8_find : MI := (yX8_find, cX8_find, 8, (none : Option FieldType), [])
abbrev mX8_first : MI := (yX8_first, cX8_first, 1, (some FieldType.int), [])
abbrev mX8_compare : MI := (yX8_compare, cX8_compare, 5, (none : Option FieldType), [])
abbrev mX8_keepOutcomes : MI := (yX8_keepOutcomes, cX8_keepOutcomes, 4, (none : Option FieldType), [])
abbrev mX8_unlikeOutcomes : MI := (yX8_unlikeOutcomes, cX8_unlikeOutcomes, 4, (some FieldType.int), [])
abbrev mX8_isNewOutcome : MI := (yX8_isNewOutcome, cX8_isNewOutcome, 4, (some FieldType.boolean), [])
abbrev mX9_init : MI := (yX9_init, cX9_init, 1, (none : Option FieldType), [])
abbrev mX9_feed : MI := (yX9_feed, cX9_feed, 6, (some FieldType.int), [])
abbrev mX9_city : MI := (yX9_city, cX9_city, 4, (some FieldType.int), [])
abbrev mX9_fault : MI := (yX9_fault, cX9_fault, 1, (some FieldType.int), [])
abbrev mX9_count : MI := (yX9_count, cX9_count, 2, (some FieldType.int), [])
abbrev mX9_person : MI := (yX9_person, cX9_person, 3, (some FieldType.int), [])
abbrev mX9_thing : MI := (yX9_thing, cX9_thing, 3, (some FieldType.int), [])
abbrev mX9_days : MI := (yX9_days, cX9_days, 3, (some FieldType.int), [])
abbrev mX9_steal : MI := (yX9_steal, cX9_steal, 4, (some FieldType.int), [])
abbrev mX9_back : MI := (yX9_back, cX9_back, 3, (some FieldType.int), [])
abbrev mX9_walk : MI := (yX9_walk, cX9_walk, 6, (some FieldType.int), [])
abbrev mX9_dye : MI := (yX9_dye, cX9_dye, 4, (some FieldType.int), [])
abbrev mX9_undo : MI := (yX9_undo, cX9_undo, 1, (some FieldType.int), [])
abbrev mX9_then : MI := (yX9_then, cX9_then, 5, (some FieldType.int), [])
abbrev mX9_later : MI := (yX9_later, cX9_later, 5, (some FieldType.int), [])
abbrev mX9_when : MI := (yX9_when, cX9_when, 3, (some FieldType.int), [])
abbrev mX9_all : MI := (yX9_all, cX9_all, 4, (some FieldType.int), [])
abbrev mX9_where : MI := (yX9_where, cX9_where, 5, (some FieldType.int), [])
abbrev mX9_toStand : MI := (yX9_toStand, cX9_toStand, 3, (some FieldType.int), [])
abbrev mX9_toSteal : MI := (yX9_toSteal, cX9_toSteal, 3, (some FieldType.int), [])
abbrev mX9_watch : MI := (yX9_watch, cX9_watch, 2, (some FieldType.int), [])
abbrev mX9_least : MI := (yX9_least, cX9_least, 2, (some FieldType.int), [])
abbrev mX9_whose : MI := (yX9_whose, cX9_whose, 2, (some FieldType.int), [])
abbrev mX9_note : MI := (yX9_note, cX9_note, 4, (some FieldType.int), [])
abbrev mX9_forget : MI := (yX9_forget, cX9_forget, 1, (none : Option FieldType), [])
abbrev mX9_vain : MI := (yX9_vain, cX9_vain, 2, (some FieldType.int), [])
abbrev mX9_ask : MI := (yX9_ask, cX9_ask, 2, (some FieldType.int), [])
abbrev mX9_fog : MI := (yX9_fog, cX9_fog, 4, (some FieldType.int), [])
abbrev mX9_game : MI := (yX9_game, cX9_game, 4, (some FieldType.int), [])
abbrev mX9_years : MI := (yX9_years, cX9_years, 5, (some FieldType.int), [])
abbrev mX9_meet : MI := (yX9_meet, cX9_meet, 3, (some FieldType.int), [])
abbrev mX9_faced : MI := (yX9_faced, cX9_faced, 4, (some FieldType.int), [])
abbrev mX9_walks : MI := (yX9_walks, cX9_walks, 3, (some FieldType.int), [])
abbrev mX9_shamed : MI := (yX9_shamed, cX9_shamed, 3, (some FieldType.int), [])
abbrev mX9_has : MI := (yX9_has, cX9_has, 3, (some FieldType.int), [])
abbrev mX9_takes : MI := (yX9_takes, cX9_takes, 3, (some FieldType.int), [])
abbrev mX9_quiet : MI := (yX9_quiet, cX9_quiet, 2, (some FieldType.int), [])
abbrev mX9_image : MI := (yX9_image, cX9_image, 1, (none : Option FieldType), [])
abbrev mX9_restore : MI := (yX9_restore, cX9_restore, 1, (some FieldType.boolean), [])
abbrev mX9_putBytes : MI := (yX9_putBytes, cX9_putBytes, 3, (none : Option FieldType), [])
abbrev mX9_refuse : MI := (yX9_refuse, cX9_refuse, 3, (some FieldType.int), [])
abbrev mX9_needPerson : MI := (yX9_needPerson, cX9_needPerson, 2, (none : Option FieldType), [])
abbrev mX9_needThing : MI := (yX9_needThing, cX9_needThing, 2, (none : Option FieldType), [])
abbrev mX9_needWhat : MI := (yX9_needWhat, cX9_needWhat, 2, (none : Option FieldType), [])
abbrev mX9_needWithin : MI := (yX9_needWithin, cX9_needWithin, 3, (none : Option FieldType), [])
abbrev mX10_init : MI := (yX10_init, cX10_init, 1, (none : Option FieldType), [])
abbrev mX10_thrown : MI := (yX10_thrown, cX10_thrown, 1, (some FieldType.int), [])
abbrev mX10_right : MI := (yX10_right, cX10_right, 3, (some FieldType.boolean), [])
abbrev mX10_within : MI := (yX10_within, cX10_within, 3, (some FieldType.boolean), [])
abbrev mX10_bounded : MI := (yX10_bounded, cX10_bounded, 3, (some FieldType.int), [])
abbrev mX10_lesser : MI := (yX10_lesser, cX10_lesser, 2, (some FieldType.int), [])
abbrev mX10_copies : MI := (yX10_copies, cX10_copies, 4, (none : Option FieldType), [])
abbrev mX10_bits : MI := (yX10_bits, cX10_bits, 3, (some FieldType.int), [])
abbrev mX10_feed : MI := (yX10_feed, cX10_feed, 6, (some FieldType.int), [])
abbrev mX10_lays : MI := (yX10_lays, cX10_lays, 3, (none : Option FieldType), [])
abbrev mX10_byteAt : MI := (yX10_byteAt, cX10_byteAt, 2, (some FieldType.int), [])
abbrev mX10_isLetter : MI := (yX10_isLetter, cX10_isLetter, 1, (some FieldType.boolean), [])
abbrev mX10_isDigit : MI := (yX10_isDigit, cX10_isDigit, 1, (some FieldType.boolean), [])
abbrev mX10_goes : MI := (yX10_goes, cX10_goes, 2, (none : Option FieldType), [])
abbrev mX10_spelled : MI := (yX10_spelled, cX10_spelled, 9, (some FieldType.long), [])
abbrev mX10_letters : MI := (yX10_letters, cX10_letters, 1, (some FieldType.long), [])
abbrev mX10_knownWord : MI := (yX10_knownWord, cX10_knownWord, 2, (some FieldType.int), [])
abbrev mX10_wrong : MI := (yX10_wrong, cX10_wrong, 2, (none : Option FieldType), [])
abbrev mX10_isGood : MI := (yX10_isGood, cX10_isGood, 1, (some FieldType.boolean), [])
abbrev mX10_isSign : MI := (yX10_isSign, cX10_isSign, 2, (some FieldType.boolean), [])
abbrev mX10_need : MI := (yX10_need, cX10_need, 2, (none : Option FieldType), [])
abbrev mX10_number : MI := (yX10_number, cX10_number, 4, (some FieldType.int), [])
abbrev mX10_isOneOf : MI := (yX10_isOneOf, cX10_isOneOf, 2, (some FieldType.boolean), [])
abbrev mX10_puts : MI := (yX10_puts, cX10_puts, 2, (none : Option FieldType), [])
abbrev mX10_isOpen : MI := (yX10_isOpen, cX10_isOpen, 1, (some FieldType.boolean), [])
abbrev mX10_strength : MI := (yX10_strength, cX10_strength, 1, (some FieldType.int), [])
abbrev mX10_drops : MI := (yX10_drops, cX10_drops, 2, (none : Option FieldType), [])
abbrev mX10_waitsFor : MI := (yX10_waitsFor, cX10_waitsFor, 2, (none : Option FieldType), [])
abbrev mX10_part : MI := (yX10_part, cX10_part, 2, (none : Option FieldType), [])
abbrev mX10_deeper : MI := (yX10_deeper, cX10_deeper, 1, (none : Option FieldType), [])
abbrev mX10_operand : MI := (yX10_operand, cX10_operand, 5, (none : Option FieldType), [])
abbrev mX10_isOpened : MI := (yX10_isOpened, cX10_isOpened, 2, (some FieldType.boolean), [])
abbrev mX10_closes : MI := (yX10_closes, cX10_closes, 1, (none : Option FieldType), [])
abbrev mX10_expression : MI := (yX10_expression, cX10_expression, 5, (none : Option FieldType), [])
abbrev mX10_begins : MI := (yX10_begins, cX10_begins, 4, (some FieldType.boolean), [])
abbrev mX10_readsPerson : MI := (yX10_readsPerson, cX10_readsPerson, 5, (none : Option FieldType), [])
abbrev mX10_readsThing : MI := (yX10_readsThing, cX10_readsThing, 2, (none : Option FieldType), [])
abbrev mX10_line : MI := (yX10_line, cX10_line, 2, (none : Option FieldType), [])
abbrev mX10_city : MI := (yX10_city, cX10_city, 3, (some FieldType.int), [])
abbrev mX10_fault : MI := (yX10_fault, cX10_fault, 1, (some FieldType.int), [])
abbrev mX10_keeps : MI := (yX10_keeps, cX10_keeps, 2, (none : Option FieldType), [])
abbrev mX10_refuses : MI := (yX10_refuses, cX10_refuses, 2, (some FieldType.int), [])
abbrev mX10_undo : MI := (yX10_undo, cX10_undo, 2, (some FieldType.int), [])
abbrev mX10_tries : MI := (yX10_tries, cX10_tries, 2, (none : Option FieldType), [])
abbrev mX10_works : MI := (yX10_works, cX10_works, 3, (some FieldType.int), [])
abbrev mX10_reckons : MI := (yX10_reckons, cX10_reckons, 5, (some FieldType.int), [])
abbrev mX10_placeOn : MI := (yX10_placeOn, cX10_placeOn, 4, (some FieldType.int), [])
abbrev mX10_looksAt : MI := (yX10_looksAt, cX10_looksAt, 6, (some FieldType.int), [])
abbrev mX10_wornBy : MI := (yX10_wornBy, cX10_wornBy, 5, (some FieldType.int), [])
abbrev mX10_wornOnes : MI := (yX10_wornOnes, cX10_wornOnes, 2, (some FieldType.int), [])
abbrev mX10_eyesOn : MI := (yX10_eyesOn, cX10_eyesOn, 3, (some FieldType.int), [])
abbrev mX10_shameOf : MI := (yX10_shameOf, cX10_shameOf, 5, (some FieldType.int), [])
abbrev mX10_isOff : MI := (yX10_isOff, cX10_isOff, 3, (none : Option FieldType), [])
abbrev mX10_thingGoes : MI := (yX10_thingGoes, cX10_thingGoes, 4, (none : Option FieldType), [])
abbrev mX10_returns0 : MI := (yX10_returns0, cX10_returns0, 3, (some FieldType.boolean), [])
abbrev mX10_givesAll : MI := (yX10_givesAll, cX10_givesAll, 4, (none : Option FieldType), [])
abbrev mX10_dayGoes : MI := (yX10_dayGoes, cX10_dayGoes, 3, (none : Option FieldType), [])
abbrev mX10_daysGo : MI := (yX10_daysGo, cX10_daysGo, 3, (none : Option FieldType), [])
abbrev mX10_comesTo : MI := (yX10_comesTo, cX10_comesTo, 5, (some FieldType.int), [])
abbrev mX10_ringsNow : MI := (yX10_ringsNow, cX10_ringsNow, 3, (some FieldType.int), [])
abbrev mX10_shameAll : MI := (yX10_shameAll, cX10_shameAll, 4, (some FieldType.int), [])
abbrev mX10_count : MI := (yX10_count, cX10_count, 2, (some FieldType.int), [])
abbrev mX10_isPerson : MI := (yX10_isPerson, cX10_isPerson, 2, (some FieldType.boolean), [])
abbrev mX10_isThing : MI := (yX10_isThing, cX10_isThing, 2, (some FieldType.boolean), [])
abbrev mX10_isWhat : MI := (yX10_isWhat, cX10_isWhat, 3, (some FieldType.boolean), [])
abbrev mX10_isSoon : MI := (yX10_isSoon, cX10_isSoon, 4, (some FieldType.boolean), [])
abbrev mX10_ownedBy : MI := (yX10_ownedBy, cX10_ownedBy, 5, (some FieldType.int), [])
abbrev mX10_heavy : MI := (yX10_heavy, cX10_heavy, 4, (some FieldType.int), [])
abbrev mX10_oddest : MI := (yX10_oddest, cX10_oddest, 4, (some FieldType.int), [])
abbrev mX10_person : MI := (yX10_person, cX10_person, 3, (some FieldType.int), [])
abbrev mX10_thing : MI := (yX10_thing, cX10_thing, 3, (some FieldType.int), [])
abbrev mX10_days : MI := (yX10_days, cX10_days, 3, (some FieldType.int), [])
abbrev mX10_maySteal : MI := (yX10_maySteal, cX10_maySteal, 4, (some FieldType.boolean), [])
abbrev mX10_steals : MI := (yX10_steals, cX10_steals, 4, (none : Option FieldType), [])
abbrev mX10_steal : MI := (yX10_steal, cX10_steal, 4, (some FieldType.int), [])
abbrev mX10_back : MI := (yX10_back, cX10_back, 3, (some FieldType.int), [])
abbrev mX10_walk : MI := (yX10_walk, cX10_walk, 6, (some FieldType.int), [])
abbrev mX10_dye : MI := (yX10_dye, cX10_dye, 4, (some FieldType.int), [])
abbrev mX10_goesTo : MI := (yX10_goesTo, cX10_goesTo, 2, (none : Option FieldType), [])
abbrev mX10_then : MI := (yX10_then, cX10_then, 4, (some FieldType.int), [])
abbrev mX10_later : MI := (yX10_later, cX10_later, 4, (some FieldType.int), [])
abbrev mX10_ownIn : MI := (yX10_ownIn, cX10_ownIn, 5, (some FieldType.int), [])
abbrev mX10_orNone : MI := (yX10_orNone, cX10_orNone, 1, (some FieldType.int), [])
abbrev mX10_when : MI := (yX10_when, cX10_when, 3, (some FieldType.int), [])
abbrev mX10_all : MI := (yX10_all, cX10_all, 7, (some FieldType.int), [])
abbrev mX10_where : MI := (yX10_where, cX10_where, 5, (some FieldType.int), [])
abbrev mX10_shamed : MI := (yX10_shamed, cX10_shamed, 4, (some FieldType.int), [])
abbrev mX10_has : MI := (yX10_has, cX10_has, 3, (some FieldType.int), [])
abbrev mX10_takes : MI := (yX10_takes, cX10_takes, 3, (some FieldType.int), [])
abbrev mX10_quiet : MI := (yX10_quiet, cX10_quiet, 4, (some FieldType.int), [])
abbrev mX10_toStand : MI := (yX10_toStand, cX10_toStand, 7, (some FieldType.int), [])
abbrev mX10_toSteal : MI := (yX10_toSteal, cX10_toSteal, 7, (some FieldType.int), [])
abbrev mX10_watch : MI := (yX10_watch, cX10_watch, 6, (some FieldType.int), [])
abbrev mX10_isSeenAt : MI := (yX10_isSeenAt, cX10_isSeenAt, 5, (some FieldType.boolean), [])
abbrev mX10_goesAt : MI := (yX10_goesAt, cX10_goesAt, 5, (some FieldType.int), [])
abbrev mX10_canGo : MI := (yX10_canGo, cX10_canGo, 4, (some FieldType.boolean), [])
abbrev mX10_least : MI := (yX10_least, cX10_least, 6, (some FieldType.int), [])
abbrev mX10_whose : MI := (yX10_whose, cX10_whose, 2, (some FieldType.int), [])
abbrev mX10_meet : MI := (yX10_meet, cX10_meet, 4, (some FieldType.int), [])
abbrev mX10_faced : MI := (yX10_faced, cX10_faced, 3, (some FieldType.int), [])
abbrev mX10_walks : MI := (yX10_walks, cX10_walks, 7, (some FieldType.int), [])
abbrev mX10_note : MI := (yX10_note, cX10_note, 4, (some FieldType.int), [])
abbrev mX10_forget : MI := (yX10_forget, cX10_forget, 1, (none : Option FieldType), [])
abbrev mX10_isNoted : MI := (yX10_isNoted, cX10_isNoted, 3, (some FieldType.boolean), [])
abbrev mX10_isGuess : MI := (yX10_isGuess, cX10_isGuess, 3, (some FieldType.boolean), [])
abbrev mX10_vain : MI := (yX10_vain, cX10_vain, 5, (some FieldType.int), [])
abbrev mX10_areLike : MI := (yX10_areLike, cX10_areLike, 4, (some FieldType.boolean), [])
abbrev mX10_ask : MI := (yX10_ask, cX10_ask, 10, (some FieldType.int), [])
abbrev mX10_fog : MI := (yX10_fog, cX10_fog, 8, (some FieldType.int), [])
abbrev mX10_gains : MI := (yX10_gains, cX10_gains, 5, (some FieldType.int), [])
abbrev mX10_game : MI := (yX10_game, cX10_game, 9, (some FieldType.int), [])
abbrev mX10_draw : MI := (yX10_draw, cX10_draw, 2, (some FieldType.int), [])
abbrev mX10_happens : MI := (yX10_happens, cX10_happens, 4, (none : Option FieldType), [])
abbrev mX10_years : MI := (yX10_years, cX10_years, 6, (some FieldType.int), [])
abbrev mX10_image : MI := (yX10_image, cX10_image, 2, (none : Option FieldType), [])
abbrev mX10_restore : MI := (yX10_restore, cX10_restore, 2, (some FieldType.boolean), [])
abbrev mJ11_isValidCodePoint_9a6ad : MI := (yJ11_isValidCodePoint_9a6ad, cJ11_isValidCodePoint_9a6ad, 2, (some FieldType.boolean), [])
abbrev mJ11_highSurrogate_5068e : MI := (yJ11_highSurrogate_5068e, cJ11_highSurrogate_5068e, 1, (some FieldType.char), [])
abbrev mJ11_lowSurrogate_5068e : MI := (yJ11_lowSurrogate_5068e, cJ11_lowSurrogate_5068e, 1, (some FieldType.char), [])
abbrev mJ6_bitCount_0f7a4 : MI := (yJ6_bitCount_0f7a4, cJ6_bitCount_0f7a4, 1, (some FieldType.int), [])
abbrev mJ9_max_7cf53 : MI := (yJ9_max_7cf53, cJ9_max_7cf53, 2, (some FieldType.int), [])
abbrev mJ9_min_7cf53 : MI := (yJ9_min_7cf53, cJ9_min_7cf53, 2, (some FieldType.int), [])
abbrev mJ0_length_8abf5 : MI := (yJ0_length_8abf5, cJ0_length_8abf5, 1, (some FieldType.int), [])
abbrev mJ0_charAt_5068e : MI := (yJ0_charAt_5068e, cJ0_charAt_5068e, 2, (some FieldType.char), [])
abbrev mJ0_indexOf_0f7a4 : MI := (yJ0_indexOf_0f7a4, cJ0_indexOf_0f7a4, 2, (some FieldType.int), [])
abbrev mJ0_indexOf_7cf53 : MI := (yJ0_indexOf_7cf53, cJ0_indexOf_7cf53, 3, (some FieldType.int), [])
abbrev mJ0_coder_7d493 : MI := (yJ0_coder_7d493, cJ0_coder_7d493, 1, (some FieldType.byte), [])
abbrev mJ0_isLatin1_aae02 : MI := (yJ0_isLatin1_aae02, cJ0_isLatin1_aae02, 1, (some FieldType.boolean), [])
abbrev mJ0_checkIndex_df160 : MI := (yJ0_checkIndex_df160, cJ0_checkIndex_df160, 2, (none : Option FieldType), [])
abbrev mJ0_checkBoundsBeginEnd_23922 : MI := (yJ0_checkBoundsBeginEnd_23922, cJ0_checkBoundsBeginEnd_23922, 3, (none : Option FieldType), [])
abbrev mJ1_charAt_3b067 : MI := (yJ1_charAt_3b067, cJ1_charAt_3b067, 2, (some FieldType.char), [])
abbrev mJ1_canEncode_9a6ad : MI := (yJ1_canEncode_9a6ad, cJ1_canEncode_9a6ad, 1, (some FieldType.boolean), [])
abbrev mJ1_indexOf_4cfef : MI := (yJ1_indexOf_4cfef, cJ1_indexOf_4cfef, 4, (some FieldType.int), [])
abbrev mJ1_indexOfChar_4cfef : MI := (yJ1_indexOfChar_4cfef, cJ1_indexOfChar_4cfef, 6, (some FieldType.int), [])
abbrev mJ2_getChar_3b067 : MI := (yJ2_getChar_3b067, cJ2_getChar_3b067, 2, (some FieldType.char), [])
abbrev mJ2_length_9d52b : MI := (yJ2_length_9d52b, cJ2_length_9d52b, 1, (some FieldType.int), [])
abbrev mJ2_indexOf_4cfef : MI := (yJ2_indexOf_4cfef, cJ2_indexOf_4cfef, 4, (some FieldType.int), [])
abbrev mJ2_indexOfChar_4cfef : MI := (yJ2_indexOfChar_4cfef, cJ2_indexOfChar_4cfef, 4, (some FieldType.int), [])
abbrev mJ2_indexOfCharUnsafe_4cfef : MI := (yJ2_indexOfCharUnsafe_4cfef, cJ2_indexOfCharUnsafe_4cfef, 5, (some FieldType.int), [])
abbrev mJ2_indexOfSupplementary_4cfef : MI := (yJ2_indexOfSupplementary_4cfef, cJ2_indexOfSupplementary_4cfef, 7, (some FieldType.int), [])
abbrev mJ2_charAt_3b067 : MI := (yJ2_charAt_3b067, cJ2_charAt_3b067, 2, (some FieldType.char), [])
abbrev mJ2_checkIndex_2214a : MI := (yJ2_checkIndex_2214a, cJ2_checkIndex_2214a, 2, (none : Option FieldType), [])
abbrev mJ2_checkBoundsBeginEnd_d044e : MI := (yJ2_checkBoundsBeginEnd_d044e, cJ2_checkBoundsBeginEnd_d044e, 3, (none : Option FieldType), [])
abbrev mJ7_fill_53178 : MI := (yJ7_fill_53178, cJ7_fill_53178, 4, (none : Option FieldType), [])
abbrev mJ3_checkIndex_8e157 : MI := (yJ3_checkIndex_8e157, cJ3_checkIndex_8e157, 3, (some FieldType.int), [])
abbrev mJ3_checkFromToIndex_8c36e : MI := (yJ3_checkFromToIndex_8c36e, cJ3_checkFromToIndex_8c36e, 4, (some FieldType.int), [])
abbrev mL_city : MI := (yL_city, cL_city, 4, (some FieldType.int), [((0 : Nat), (9 : Nat), (12 : Nat), (13 : Nat))])
abbrev mL_count : MI := (yL_count, cL_count, 4, (some FieldType.int), [((0 : Nat), (9 : Nat), (12 : Nat), (18 : Nat))])
abbrev mL_person : MI := (yL_person, cL_person, 5, (some FieldType.int), [((0 : Nat), (10 : Nat), (13 : Nat), (18 : Nat))])
abbrev mL_thing : MI := (yL_thing, cL_thing, 5, (some FieldType.int), [((0 : Nat), (10 : Nat), (13 : Nat), (18 : Nat))])
abbrev mL_steal : MI := (yL_steal, cL_steal, 5, (some FieldType.int), [((0 : Nat), (10 : Nat), (13 : Nat), (18 : Nat))])
abbrev mL_back : MI := (yL_back, cL_back, 4, (some FieldType.int), [((0 : Nat), (9 : Nat), (12 : Nat), (18 : Nat))])
abbrev mL_walk : MI := (yL_walk, cL_walk, 6, (some FieldType.int), [((0 : Nat), (12 : Nat), (15 : Nat), (18 : Nat))])
abbrev mL_dye : MI := (yL_dye, cL_dye, 5, (some FieldType.int), [((0 : Nat), (10 : Nat), (13 : Nat), (18 : Nat))])
abbrev mL_then : MI := (yL_then, cL_then, 6, (some FieldType.int), [((0 : Nat), (12 : Nat), (15 : Nat), (18 : Nat)), ((0 : Nat), (12 : Nat), (19 : Nat), (13 : Nat))])
abbrev mL_later : MI := (yL_later, cL_later, 6, (some FieldType.int), [((0 : Nat), (12 : Nat), (15 : Nat), (18 : Nat)), ((0 : Nat), (12 : Nat), (19 : Nat), (13 : Nat))])
abbrev mL_when : MI := (yL_when, cL_when, 5, (some FieldType.int), [((0 : Nat), (10 : Nat), (13 : Nat), (18 : Nat))])
abbrev mL_all : MI := (yL_all, cL_all, 5, (some FieldType.int), [((0 : Nat), (10 : Nat), (13 : Nat), (18 : Nat)), ((0 : Nat), (10 : Nat), (17 : Nat), (13 : Nat))])
abbrev mL_where : MI := (yL_where, cL_where, 6, (some FieldType.int), [((0 : Nat), (12 : Nat), (15 : Nat), (18 : Nat)), ((0 : Nat), (12 : Nat), (19 : Nat), (13 : Nat))])
abbrev mL_toStand : MI := (yL_toStand, cL_toStand, 5, (some FieldType.int), [((0 : Nat), (10 : Nat), (13 : Nat), (18 : Nat))])
abbrev mL_toSteal : MI := (yL_toSteal, cL_toSteal, 5, (some FieldType.int), [((0 : Nat), (10 : Nat), (13 : Nat), (18 : Nat))])
abbrev mL_watch : MI := (yL_watch, cL_watch, 4, (some FieldType.int), [((0 : Nat), (9 : Nat), (12 : Nat), (13 : Nat))])
abbrev mL_least : MI := (yL_least, cL_least, 4, (some FieldType.int), [((0 : Nat), (9 : Nat), (12 : Nat), (18 : Nat))])
abbrev mL_whose : MI := (yL_whose, cL_whose, 4, (some FieldType.int), [((0 : Nat), (9 : Nat), (12 : Nat), (18 : Nat))])
abbrev mL_note : MI := (yL_note, cL_note, 6, (some FieldType.int), [((0 : Nat), (12 : Nat), (15 : Nat), (18 : Nat))])
abbrev mL_vain : MI := (yL_vain, cL_vain, 4, (some FieldType.int), [((0 : Nat), (9 : Nat), (12 : Nat), (18 : Nat))])
abbrev mL_ask : MI := (yL_ask, cL_ask, 4, (some FieldType.int), [((0 : Nat), (9 : Nat), (12 : Nat), (18 : Nat))])
abbrev mL_fog : MI := (yL_fog, cL_fog, 6, (some FieldType.int), [((0 : Nat), (12 : Nat), (15 : Nat), (18 : Nat)), ((0 : Nat), (12 : Nat), (19 : Nat), (13 : Nat))])
abbrev mL_game : MI := (yL_game, cL_game, 6, (some FieldType.int), [((0 : Nat), (12 : Nat), (15 : Nat), (18 : Nat)), ((0 : Nat), (12 : Nat), (19 : Nat), (13 : Nat))])
abbrev mL_years : MI := (yL_years, cL_years, 6, (some FieldType.int), [((0 : Nat), (12 : Nat), (15 : Nat), (18 : Nat)), ((0 : Nat), (12 : Nat), (19 : Nat), (13 : Nat))])
abbrev mL_meet : MI := (yL_meet, cL_meet, 5, (some FieldType.int), [((0 : Nat), (10 : Nat), (13 : Nat), (18 : Nat))])
abbrev mL_faced : MI := (yL_faced, cL_faced, 4, (some FieldType.int), [((0 : Nat), (9 : Nat), (12 : Nat), (18 : Nat))])
abbrev mL_walks : MI := (yL_walks, cL_walks, 5, (some FieldType.int), [((0 : Nat), (10 : Nat), (13 : Nat), (18 : Nat)), ((0 : Nat), (10 : Nat), (17 : Nat), (13 : Nat))])
abbrev mL_shamed : MI := (yL_shamed, cL_shamed, 5, (some FieldType.int), [((0 : Nat), (10 : Nat), (13 : Nat), (18 : Nat)), ((0 : Nat), (10 : Nat), (17 : Nat), (13 : Nat))])
abbrev mL_has : MI := (yL_has, cL_has, 5, (some FieldType.int), [((0 : Nat), (10 : Nat), (13 : Nat), (18 : Nat)), ((0 : Nat), (10 : Nat), (17 : Nat), (13 : Nat))])
abbrev mL_takes : MI := (yL_takes, cL_takes, 5, (some FieldType.int), [((0 : Nat), (10 : Nat), (13 : Nat), (18 : Nat))])
abbrev mL_quiet : MI := (yL_quiet, cL_quiet, 4, (some FieldType.int), [((0 : Nat), (9 : Nat), (12 : Nat), (13 : Nat))])
theorem fX3_9 : FL RX3 9 3 0 := ⟨by decide, by decide, ⟨ch1_2 _ (List.mem_of_getElem? (i := 8) rfl), rfl⟩⟩
theorem fX3_25 : FL RX3 25 3 1 := ⟨by decide, by decide, ⟨ch1_2 _ (List.mem_of_getElem? (i := 9) rfl), rfl⟩⟩
theorem fX3_57 : FL RX3 57 3 2 := ⟨by decide, by decide, ⟨ch1_2 _ (List.mem_of_getElem? (i := 10) rfl), rfl⟩⟩
theorem fX3_60 : FL RX3 60 3 3 := ⟨by decide, by decide, ⟨ch1_2 _ (List.mem_of_getElem? (i := 11) rfl), rfl⟩⟩
theorem fX3_38 : FL RX3 38 3 4 := ⟨by decide, by decide, ⟨ch1_2 _ (List.mem_of_getElem? (i := 12) rfl), rfl⟩⟩
theorem fX3_77 : FL RX3 77 3 5 := ⟨by decide, by decide, ⟨ch1_2 _ (List.mem_of_getElem? (i := 13) rfl), rfl⟩⟩
theorem fX3_80 : FL RX3 80 3 6 := ⟨by decide, by decide, ⟨ch1_2 _ (List.mem_of_getElem? (i := 14) rfl), rfl⟩⟩
theorem fX3_29 : FL RX3 29 3 7 := ⟨by decide, by decide, ⟨ch1_2 _ (List.mem_of_getElem? (i := 15) rfl), rfl⟩⟩
theorem fX3_41 : FL RX3 41 3 8 := ⟨by decide, by decide, ⟨ch1_3 _ (List.mem_of_getElem? (i := 0) rfl), rfl⟩⟩
theorem fX3_45 : FL RX3 45 3 9 := ⟨by decide, by decide, ⟨ch1_3 _ (List.mem_of_getElem? (i := 1) rfl), rfl⟩⟩
theorem fX3_48 : FL RX3 48 3 10 := ⟨by decide, by decide, ⟨ch1_3 _ (List.mem_of_getElem? (i := 2) rfl), rfl⟩⟩
theorem fX9_116 : FL RX9 116 3 10 := ⟨by decide, by decide, ⟨ch1_3 _ (List.mem_of_getElem? (i := 3) rfl), rfl⟩⟩
theorem fX3_51 : FL RX3 51 3 11 := ⟨by decide, by decide, ⟨ch1_3 _ (List.mem_of_getElem? (i := 4) rfl), rfl⟩⟩
theorem fX9_113 : FL RX9 113 3 11 := ⟨by decide, by decide, ⟨ch1_3 _ (List.mem_of_getElem? (i := 5) rfl), rfl⟩⟩
theorem fX3_15 : FL RX3 15 3 12 := ⟨by decide, by decide, ⟨ch1_3 _ (List.mem_of_getElem? (i := 6) rfl), rfl⟩⟩
theorem fX3_224 : FL RX3 224 3 13 := ⟨by decide, by decide, ⟨ch1_3 _ (List.mem_of_getElem? (i := 7) rfl), rfl⟩⟩
theorem fX3_206 : FL RX3 206 3 14 := ⟨by decide, by decide, ⟨ch1_3 _ (List.mem_of_getElem? (i := 8) rfl), rfl⟩⟩
theorem fX3_227 : FL RX3 227 3 15 := ⟨by decide, by decide, ⟨ch1_3 _ (List.mem_of_getElem? (i := 9) rfl), rfl⟩⟩
theorem fX3_203 : FL RX3 203 3 16 := ⟨by decide, by decide, ⟨ch1_3 _ (List.mem_of_getElem? (i := 10) rfl), rfl⟩⟩
theorem fX3_230 : FL RX3 230 3 17 := ⟨by decide, by decide, ⟨ch1_3 _ (List.mem_of_getElem? (i := 11) rfl), rfl⟩⟩
theorem fX4_13 : FL RX4 13 4 0 := ⟨by decide, by decide, ⟨ch1_6 _ (List.mem_of_getElem? (i := 15) rfl), rfl⟩⟩
theorem fX1_74 : FL RX1 74 4 0 := ⟨by decide, by decide, ⟨ch1_7 _ (List.mem_of_getElem? (i := 0) rfl), rfl⟩⟩
theorem fX3_220 : FL RX3 220 4 0 := ⟨by decide, by decide, ⟨ch1_7 _ (List.mem_of_getElem? (i := 1) rfl), rfl⟩⟩
theorem fX4_7 : FL RX4 7 4 1 := ⟨by decide, by decide, ⟨ch1_7 _ (List.mem_of_getElem? (i := 2) rfl), rfl⟩⟩
theorem fX1_77 : FL RX1 77 4 1 := ⟨by decide, by decide, ⟨ch1_7 _ (List.mem_of_getElem? (i := 3) rfl), rfl⟩⟩
theorem fX3_223 : FL RX3 223 4 1 := ⟨by decide, by decide, ⟨ch1_7 _ (List.mem_of_getElem? (i := 4) rfl), rfl⟩⟩
theorem fX1_52 : FL RX1 52 1 0 := ⟨by decide, by decide, ⟨ch1_8 _ (List.mem_of_getElem? (i := 1) rfl), rfl⟩⟩
theorem fX5_54 : FL RX5 54 1 0 := ⟨by decide, by decide, ⟨ch1_8 _ (List.mem_of_getElem? (i := 2) rfl), rfl⟩⟩
theorem fX9_135 : FL RX9 135 1 0 := ⟨by decide, by decide, ⟨ch1_8 _ (List.mem_of_getElem? (i := 3) rfl), rfl⟩⟩
theorem fX7_50 : FL RX7 50 1 0 := ⟨by decide, by decide, ⟨ch1_8 _ (List.mem_of_getElem? (i := 4) rfl), rfl⟩⟩
theorem fX3_151 : FL RX3 151 1 0 := ⟨by decide, by decide, ⟨ch1_8 _ (List.mem_of_getElem? (i := 5) rfl), rfl⟩⟩
theorem fX1_56 : FL RX1 56 1 1 := ⟨by decide, by decide, ⟨ch1_8 _ (List.mem_of_getElem? (i := 6) rfl), rfl⟩⟩
theorem fX5_27 : FL RX5 27 1 1 := ⟨by decide, by decide, ⟨ch1_8 _ (List.mem_of_getElem? (i := 7) rfl), rfl⟩⟩
theorem fX8_44 : FL RX8 44 1 1 := ⟨by decide, by decide, ⟨ch1_8 _ (List.mem_of_getElem? (i := 8) rfl), rfl⟩⟩
theorem fX9_138 : FL RX9 138 1 1 := ⟨by decide, by decide, ⟨ch1_8 _ (List.mem_of_getElem? (i := 9) rfl), rfl⟩⟩
theorem fX6_104 : FL RX6 104 1 1 := ⟨by decide, by decide, ⟨ch1_8 _ (List.mem_of_getElem? (i := 10) rfl), rfl⟩⟩
theorem fX3_144 : FL RX3 144 1 1 := ⟨by decide, by decide, ⟨ch1_8 _ (List.mem_of_getElem? (i := 11) rfl), rfl⟩⟩
theorem fX7_109 : FL RX7 109 1 1 := ⟨by decide, by decide, ⟨ch1_8 _ (List.mem_of_getElem? (i := 12) rfl), rfl⟩⟩
theorem fX1_59 : FL RX1 59 1 2 := ⟨by decide, by decide, ⟨ch1_8 _ (List.mem_of_getElem? (i := 13) rfl), rfl⟩⟩
theorem fX5_44 : FL RX5 44 1 2 := ⟨by decide, by decide, ⟨ch1_8 _ (List.mem_of_getElem? (i := 14) rfl), rfl⟩⟩
theorem fX8_70 : FL RX8 70 1 2 := ⟨by decide, by decide, ⟨ch1_8 _ (List.mem_of_getElem? (i := 15) rfl), rfl⟩⟩
theorem fX9_141 : FL RX9 141 1 2 := ⟨by decide, by decide, ⟨ch1_9 _ (List.mem_of_getElem? (i := 0) rfl), rfl⟩⟩
theorem fX6_91 : FL RX6 91 1 2 := ⟨by decide, by decide, ⟨ch1_9 _ (List.mem_of_getElem? (i := 1) rfl), rfl⟩⟩
theorem fX7_68 : FL RX7 68 1 2 := ⟨by decide, by decide, ⟨ch1_9 _ (List.mem_of_getElem? (i := 2) rfl), rfl⟩⟩
theorem fX3_172 : FL RX3 172 1 2 := ⟨by decide, by decide, ⟨ch1_9 _ (List.mem_of_getElem? (i := 3) rfl), rfl⟩⟩
theorem fX1_62 : FL RX1 62 1 3 := ⟨by decide, by decide, ⟨ch1_9 _ (List.mem_of_getElem? (i := 4) rfl), rfl⟩⟩
theorem fX9_144 : FL RX9 144 1 3 := ⟨by decide, by decide, ⟨ch1_9 _ (List.mem_of_getElem? (i := 5) rfl), rfl⟩⟩
theorem fX6_120 : FL RX6 120 1 3 := ⟨by decide, by decide, ⟨ch1_9 _ (List.mem_of_getElem? (i := 6) rfl), rfl⟩⟩
theorem fX3_156 : FL RX3 156 1 3 := ⟨by decide, by decide, ⟨ch1_9 _ (List.mem_of_getElem? (i := 7) rfl), rfl⟩⟩
theorem fX1_9 : FL RX1 9 1 4 := ⟨by decide, by decide, ⟨ch1_9 _ (List.mem_of_getElem? (i := 8) rfl), rfl⟩⟩
theorem fX6_58 : FL RX6 58 1 4 := ⟨by decide, by decide, ⟨ch1_9 _ (List.mem_of_getElem? (i := 9) rfl), rfl⟩⟩
theorem fX9_168 : FL RX9 168 1 4 := ⟨by decide, by decide, ⟨ch1_9 _ (List.mem_of_getElem? (i := 10) rfl), rfl⟩⟩
theorem fX3_158 : FL RX3 158 1 4 := ⟨by decide, by decide, ⟨ch1_9 _ (List.mem_of_getElem? (i := 11) rfl), rfl⟩⟩
theorem fX1_15 : FL RX1 15 1 5 := ⟨by decide, by decide, ⟨ch1_9 _ (List.mem_of_getElem? (i := 12) rfl), rfl⟩⟩
theorem fX9_177 : FL RX9 177 1 5 := ⟨by decide, by decide, ⟨ch1_9 _ (List.mem_of_getElem? (i := 13) rfl), rfl⟩⟩
theorem fX3_161 : FL RX3 161 1 5 := ⟨by decide, by decide, ⟨ch1_9 _ (List.mem_of_getElem? (i := 14) rfl), rfl⟩⟩
theorem fX6_159 : FL RX6 159 1 5 := ⟨by decide, by decide, ⟨ch1_9 _ (List.mem_of_getElem? (i := 15) rfl), rfl⟩⟩
theorem fX1_18 : FL RX1 18 1 6 := ⟨by decide, by decide, ⟨ch1_10 _ (List.mem_of_getElem? (i := 0) rfl), rfl⟩⟩
theorem fX9_232 : FL RX9 232 1 6 := ⟨by decide, by decide, ⟨ch1_10 _ (List.mem_of_getElem? (i := 1) rfl), rfl⟩⟩
theorem fX6_156 : FL RX6 156 1 6 := ⟨by decide, by decide, ⟨ch1_10 _ (List.mem_of_getElem? (i := 2) rfl), rfl⟩⟩
theorem fX3_169 : FL RX3 169 1 6 := ⟨by decide, by decide, ⟨ch1_10 _ (List.mem_of_getElem? (i := 3) rfl), rfl⟩⟩
theorem fX1_21 : FL RX1 21 1 7 := ⟨by decide, by decide, ⟨ch1_10 _ (List.mem_of_getElem? (i := 4) rfl), rfl⟩⟩
theorem fX6_71 : FL RX6 71 1 7 := ⟨by decide, by decide, ⟨ch1_10 _ (List.mem_of_getElem? (i := 5) rfl), rfl⟩⟩
theorem fX3_166 : FL RX3 166 1 7 := ⟨by decide, by decide, ⟨ch1_10 _ (List.mem_of_getElem? (i := 6) rfl), rfl⟩⟩
theorem fX1_24 : FL RX1 24 1 8 := ⟨by decide, by decide, ⟨ch1_10 _ (List.mem_of_getElem? (i := 7) rfl), rfl⟩⟩
theorem fX9_199 : FL RX9 199 1 8 := ⟨by decide, by decide, ⟨ch1_10 _ (List.mem_of_getElem? (i := 8) rfl), rfl⟩⟩
theorem fX6_143 : FL RX6 143 1 8 := ⟨by decide, by decide, ⟨ch1_10 _ (List.mem_of_getElem? (i := 9) rfl), rfl⟩⟩
theorem fX3_175 : FL RX3 175 1 8 := ⟨by decide, by decide, ⟨ch1_10 _ (List.mem_of_getElem? (i := 10) rfl), rfl⟩⟩
theorem fX1_27 : FL RX1 27 1 9 := ⟨by decide, by decide, ⟨ch1_10 _ (List.mem_of_getElem? (i := 11) rfl), rfl⟩⟩
theorem fX6_72 : FL RX6 72 1 9 := ⟨by decide, by decide, ⟨ch1_10 _ (List.mem_of_getElem? (i := 12) rfl), rfl⟩⟩
theorem fX3_178 : FL RX3 178 1 9 := ⟨by decide, by decide, ⟨ch1_10 _ (List.mem_of_getElem? (i := 13) rfl), rfl⟩⟩
theorem fX1_30 : FL RX1 30 1 10 := ⟨by decide, by decide, ⟨ch1_10 _ (List.mem_of_getElem? (i := 14) rfl), rfl⟩⟩
theorem fX6_73 : FL RX6 73 1 10 := ⟨by decide, by decide, ⟨ch1_10 _ (List.mem_of_getElem? (i := 15) rfl), rfl⟩⟩
theorem fX3_184 : FL RX3 184 1 10 := ⟨by decide, by decide, ⟨ch1_11 _ (List.mem_of_getElem? (i := 0) rfl), rfl⟩⟩
theorem fX1_33 : FL RX1 33 1 11 := ⟨by decide, by decide, ⟨ch1_11 _ (List.mem_of_getElem? (i := 1) rfl), rfl⟩⟩
theorem fX6_74 : FL RX6 74 1 11 := ⟨by decide, by decide, ⟨ch1_11 _ (List.mem_of_getElem? (i := 2) rfl), rfl⟩⟩
theorem fX3_189 : FL RX3 189 1 11 := ⟨by decide, by decide, ⟨ch1_11 _ (List.mem_of_getElem? (i := 3) rfl), rfl⟩⟩
theorem fX1_36 : FL RX1 36 1 12 := ⟨by decide, by decide, ⟨ch1_11 _ (List.mem_of_getElem? (i := 4) rfl), rfl⟩⟩
theorem fX6_146 : FL RX6 146 1 12 := ⟨by decide, by decide, ⟨ch1_11 _ (List.mem_of_getElem? (i := 5) rfl), rfl⟩⟩
theorem fX1_71 : FL RX1 71 1 13 := ⟨by decide, by decide, ⟨ch1_11 _ (List.mem_of_getElem? (i := 6) rfl), rfl⟩⟩
theorem fX3_197 : FL RX3 197 1 13 := ⟨by decide, by decide, ⟨ch1_11 _ (List.mem_of_getElem? (i := 7) rfl), rfl⟩⟩
theorem fX1_42 : FL RX1 42 1 14 := ⟨by decide, by decide, ⟨ch1_11 _ (List.mem_of_getElem? (i := 8) rfl), rfl⟩⟩
theorem fX3_120 : FL RX3 120 1 14 := ⟨by decide, by decide, ⟨ch1_11 _ (List.mem_of_getElem? (i := 9) rfl), rfl⟩⟩
theorem fX6_135 : FL RX6 135 1 14 := ⟨by decide, by decide, ⟨ch1_11 _ (List.mem_of_getElem? (i := 10) rfl), rfl⟩⟩
theorem fX1_46 : FL RX1 46 1 15 := ⟨by decide, by decide, ⟨ch1_11 _ (List.mem_of_getElem? (i := 11) rfl), rfl⟩⟩
theorem fX3_129 : FL RX3 129 1 15 := ⟨by decide, by decide, ⟨ch1_11 _ (List.mem_of_getElem? (i := 12) rfl), rfl⟩⟩
theorem fX6_153 : FL RX6 153 1 15 := ⟨by decide, by decide, ⟨ch1_11 _ (List.mem_of_getElem? (i := 13) rfl), rfl⟩⟩
theorem fX6_47 : FL RX6 47 6 0 := ⟨by decide, by decide, ⟨ch1_14 _ (List.mem_of_getElem? (i := 5) rfl), rfl⟩⟩
theorem fX5_21 : FL RX5 21 6 0 := ⟨by decide, by decide, ⟨ch1_14 _ (List.mem_of_getElem? (i := 6) rfl), rfl⟩⟩
theorem fX8_38 : FL RX8 38 6 0 := ⟨by decide, by decide, ⟨ch1_14 _ (List.mem_of_getElem? (i := 7) rfl), rfl⟩⟩
theorem fX7_46 : FL RX7 46 6 0 := ⟨by decide, by decide, ⟨ch1_14 _ (List.mem_of_getElem? (i := 8) rfl), rfl⟩⟩
theorem fX6_51 : FL RX6 51 6 1 := ⟨by decide, by decide, ⟨ch1_14 _ (List.mem_of_getElem? (i := 9) rfl), rfl⟩⟩
theorem fX9_147 : FL RX9 147 6 1 := ⟨by decide, by decide, ⟨ch1_14 _ (List.mem_of_getElem? (i := 10) rfl), rfl⟩⟩
theorem fX5_66 : FL RX5 66 6 1 := ⟨by decide, by decide, ⟨ch1_14 _ (List.mem_of_getElem? (i := 11) rfl), rfl⟩⟩
theorem fX6_55 : FL RX6 55 6 2 := ⟨by decide, by decide, ⟨ch1_14 _ (List.mem_of_getElem? (i := 12) rfl), rfl⟩⟩
theorem fX9_265 : FL RX9 265 6 2 := ⟨by decide, by decide, ⟨ch1_14 _ (List.mem_of_getElem? (i := 13) rfl), rfl⟩⟩
theorem fX6_9 : FL RX6 9 6 3 := ⟨by decide, by decide, ⟨ch1_14 _ (List.mem_of_getElem? (i := 14) rfl), rfl⟩⟩
theorem fX8_53 : FL RX8 53 6 3 := ⟨by decide, by decide, ⟨ch1_14 _ (List.mem_of_getElem? (i := 15) rfl), rfl⟩⟩
theorem fX5_109 : FL RX5 109 6 3 := ⟨by decide, by decide, ⟨ch2_0 _ (List.mem_of_getElem? (i := 0) rfl), rfl⟩⟩
theorem fX6_15 : FL RX6 15 6 4 := ⟨by decide, by decide, ⟨ch2_0 _ (List.mem_of_getElem? (i := 1) rfl), rfl⟩⟩
theorem fX9_174 : FL RX9 174 6 4 := ⟨by decide, by decide, ⟨ch2_0 _ (List.mem_of_getElem? (i := 2) rfl), rfl⟩⟩
theorem fX7_77 : FL RX7 77 6 4 := ⟨by decide, by decide, ⟨ch2_0 _ (List.mem_of_getElem? (i := 3) rfl), rfl⟩⟩
theorem fX6_18 : FL RX6 18 6 5 := ⟨by decide, by decide, ⟨ch2_0 _ (List.mem_of_getElem? (i := 4) rfl), rfl⟩⟩
theorem fX9_238 : FL RX9 238 6 5 := ⟨by decide, by decide, ⟨ch2_0 _ (List.mem_of_getElem? (i := 5) rfl), rfl⟩⟩
theorem fX6_21 : FL RX6 21 6 6 := ⟨by decide, by decide, ⟨ch2_0 _ (List.mem_of_getElem? (i := 6) rfl), rfl⟩⟩
theorem fX9_202 : FL RX9 202 6 6 := ⟨by decide, by decide, ⟨ch2_0 _ (List.mem_of_getElem? (i := 7) rfl), rfl⟩⟩
theorem fX5_106 : FL RX5 106 6 6 := ⟨by decide, by decide, ⟨ch2_0 _ (List.mem_of_getElem? (i := 8) rfl), rfl⟩⟩
theorem fX7_115 : FL RX7 115 6 6 := ⟨by decide, by decide, ⟨ch2_0 _ (List.mem_of_getElem? (i := 9) rfl), rfl⟩⟩
theorem fX6_24 : FL RX6 24 6 7 := ⟨by decide, by decide, ⟨ch2_0 _ (List.mem_of_getElem? (i := 10) rfl), rfl⟩⟩
theorem fX5_47 : FL RX5 47 6 7 := ⟨by decide, by decide, ⟨ch2_0 _ (List.mem_of_getElem? (i := 11) rfl), rfl⟩⟩
theorem fX7_43 : FL RX7 43 6 7 := ⟨by decide, by decide, ⟨ch2_0 _ (List.mem_of_getElem? (i := 12) rfl), rfl⟩⟩
theorem fX9_205 : FL RX9 205 6 7 := ⟨by decide, by decide, ⟨ch2_0 _ (List.mem_of_getElem? (i := 13) rfl), rfl⟩⟩
theorem fX6_27 : FL RX6 27 6 8 := ⟨by decide, by decide, ⟨ch2_0 _ (List.mem_of_getElem? (i := 14) rfl), rfl⟩⟩
theorem fX7_40 : FL RX7 40 6 8 := ⟨by decide, by decide, ⟨ch2_0 _ (List.mem_of_getElem? (i := 15) rfl), rfl⟩⟩
theorem fX8_79 : FL RX8 79 6 8 := ⟨by decide, by decide, ⟨ch2_1 _ (List.mem_of_getElem? (i := 0) rfl), rfl⟩⟩
theorem fX9_208 : FL RX9 208 6 8 := ⟨by decide, by decide, ⟨ch2_1 _ (List.mem_of_getElem? (i := 1) rfl), rfl⟩⟩
theorem fX2_55 : FL RX2 55 6 8 := ⟨by decide, by decide, ⟨ch2_1 _ (List.mem_of_getElem? (i := 2) rfl), rfl⟩⟩
theorem fX5_90 : FL RX5 90 6 8 := ⟨by decide, by decide, ⟨ch2_1 _ (List.mem_of_getElem? (i := 3) rfl), rfl⟩⟩
theorem fX6_30 : FL RX6 30 6 9 := ⟨by decide, by decide, ⟨ch2_1 _ (List.mem_of_getElem? (i := 4) rfl), rfl⟩⟩
theorem fX8_76 : FL RX8 76 6 9 := ⟨by decide, by decide, ⟨ch2_1 _ (List.mem_of_getElem? (i := 5) rfl), rfl⟩⟩
theorem fX9_211 : FL RX9 211 6 9 := ⟨by decide, by decide, ⟨ch2_1 _ (List.mem_of_getElem? (i := 6) rfl), rfl⟩⟩
theorem fX6_33 : FL RX6 33 6 10 := ⟨by decide, by decide, ⟨ch2_1 _ (List.mem_of_getElem? (i := 7) rfl), rfl⟩⟩
theorem fX6_36 : FL RX6 36 6 11 := ⟨by decide, by decide, ⟨ch2_1 _ (List.mem_of_getElem? (i := 8) rfl), rfl⟩⟩
theorem fX6_41 : FL RX6 41 6 12 := ⟨by decide, by decide, ⟨ch2_1 _ (List.mem_of_getElem? (i := 9) rfl), rfl⟩⟩
theorem fX6_44 : FL RX6 44 6 13 := ⟨by decide, by decide, ⟨ch2_1 _ (List.mem_of_getElem? (i := 10) rfl), rfl⟩⟩
theorem fX0_13 : FL RX0 13 0 0 := ⟨by decide, by decide, ⟨ch2_3 _ (List.mem_of_getElem? (i := 14) rfl), rfl⟩⟩
theorem fX0_17 : FL RX0 17 0 1 := ⟨by decide, by decide, ⟨ch2_3 _ (List.mem_of_getElem? (i := 15) rfl), rfl⟩⟩
theorem fX0_21 : FL RX0 21 0 2 := ⟨by decide, by decide, ⟨ch2_4 _ (List.mem_of_getElem? (i := 0) rfl), rfl⟩⟩
theorem fX9_161 : FL RX9 161 0 2 := ⟨by decide, by decide, ⟨ch2_4 _ (List.mem_of_getElem? (i := 1) rfl), rfl⟩⟩
theorem fX2_21 : FL RX2 21 2 0 := ⟨by decide, by decide, ⟨ch2_4 _ (List.mem_of_getElem? (i := 15) rfl), rfl⟩⟩
theorem fX9_164 : FL RX9 164 2 0 := ⟨by decide, by decide, ⟨ch2_5 _ (List.mem_of_getElem? (i := 0) rfl), rfl⟩⟩
theorem fX2_11 : FL RX2 11 2 1 := ⟨by decide, by decide, ⟨ch2_5 _ (List.mem_of_getElem? (i := 1) rfl), rfl⟩⟩
theorem fX2_15 : FL RX2 15 2 2 := ⟨by decide, by decide, ⟨ch2_5 _ (List.mem_of_getElem? (i := 2) rfl), rfl⟩⟩
theorem fX2_18 : FL RX2 18 2 3 := ⟨by decide, by decide, ⟨ch2_5 _ (List.mem_of_getElem? (i := 3) rfl), rfl⟩⟩
theorem fX7_12 : FL RX7 12 7 0 := ⟨by decide, by decide, ⟨ch2_6 _ (List.mem_of_getElem? (i := 5) rfl), rfl⟩⟩
theorem fX8_28 : FL RX8 28 7 0 := ⟨by decide, by decide, ⟨ch2_6 _ (List.mem_of_getElem? (i := 6) rfl), rfl⟩⟩
theorem fX9_295 : FL RX9 295 7 0 := ⟨by decide, by decide, ⟨ch2_6 _ (List.mem_of_getElem? (i := 7) rfl), rfl⟩⟩
theorem fX7_103 : FL RX7 103 7 1 := ⟨by decide, by decide, ⟨ch2_6 _ (List.mem_of_getElem? (i := 8) rfl), rfl⟩⟩
theorem fX7_18 : FL RX7 18 7 2 := ⟨by decide, by decide, ⟨ch2_6 _ (List.mem_of_getElem? (i := 9) rfl), rfl⟩⟩
theorem fX7_22 : FL RX7 22 7 3 := ⟨by decide, by decide, ⟨ch2_6 _ (List.mem_of_getElem? (i := 10) rfl), rfl⟩⟩
theorem fX8_18 : FL RX8 18 8 0 := ⟨by decide, by decide, ⟨ch2_7 _ (List.mem_of_getElem? (i := 10) rfl), rfl⟩⟩
theorem fX9_306 : FL RX9 306 8 0 := ⟨by decide, by decide, ⟨ch2_7 _ (List.mem_of_getElem? (i := 11) rfl), rfl⟩⟩
theorem fX8_64 : FL RX8 64 8 1 := ⟨by decide, by decide, ⟨ch2_7 _ (List.mem_of_getElem? (i := 12) rfl), rfl⟩⟩
theorem fX9_314 : FL RX9 314 8 1 := ⟨by decide, by decide, ⟨ch2_7 _ (List.mem_of_getElem? (i := 13) rfl), rfl⟩⟩
theorem fX8_67 : FL RX8 67 8 2 := ⟨by decide, by decide, ⟨ch2_7 _ (List.mem_of_getElem? (i := 14) rfl), rfl⟩⟩
theorem fX9_316 : FL RX9 316 8 2 := ⟨by decide, by decide, ⟨ch2_7 _ (List.mem_of_getElem? (i := 15) rfl), rfl⟩⟩
theorem fX8_11 : FL RX8 11 8 3 := ⟨by decide, by decide, ⟨ch2_8 _ (List.mem_of_getElem? (i := 0) rfl), rfl⟩⟩
theorem fX8_15 : FL RX8 15 8 4 := ⟨by decide, by decide, ⟨ch2_8 _ (List.mem_of_getElem? (i := 1) rfl), rfl⟩⟩
theorem fX5_9 : FL RX5 9 5 0 := ⟨by decide, by decide, ⟨ch2_9 _ (List.mem_of_getElem? (i := 3) rfl), rfl⟩⟩
theorem fX5_15 : FL RX5 15 5 1 := ⟨by decide, by decide, ⟨ch2_9 _ (List.mem_of_getElem? (i := 4) rfl), rfl⟩⟩
theorem fX5_18 : FL RX5 18 5 2 := ⟨by decide, by decide, ⟨ch2_9 _ (List.mem_of_getElem? (i := 5) rfl), rfl⟩⟩
theorem fX5_87 : FL RX5 87 5 3 := ⟨by decide, by decide, ⟨ch2_9 _ (List.mem_of_getElem? (i := 6) rfl), rfl⟩⟩
theorem fX9_9 : FL RX9 9 9 0 := ⟨by decide, by decide, ⟨ch2_10 _ (List.mem_of_getElem? (i := 14) rfl), rfl⟩⟩
theorem fX9_93 : FL RX9 93 9 1 := ⟨by decide, by decide, ⟨ch2_10 _ (List.mem_of_getElem? (i := 15) rfl), rfl⟩⟩
theorem fX9_13 : FL RX9 13 9 2 := ⟨by decide, by decide, ⟨ch2_11 _ (List.mem_of_getElem? (i := 0) rfl), rfl⟩⟩
theorem fX9_17 : FL RX9 17 9 3 := ⟨by decide, by decide, ⟨ch2_11 _ (List.mem_of_getElem? (i := 1) rfl), rfl⟩⟩
theorem fX9_24 : FL RX9 24 9 4 := ⟨by decide, by decide, ⟨ch2_11 _ (List.mem_of_getElem? (i := 2) rfl), rfl⟩⟩
theorem fX9_31 : FL RX9 31 9 5 := ⟨by decide, by decide, ⟨ch2_11 _ (List.mem_of_getElem? (i := 3) rfl), rfl⟩⟩
theorem fX9_35 : FL RX9 35 9 6 := ⟨by decide, by decide, ⟨ch2_11 _ (List.mem_of_getElem? (i := 4) rfl), rfl⟩⟩
theorem fX9_41 : FL RX9 41 9 7 := ⟨by decide, by decide, ⟨ch2_11 _ (List.mem_of_getElem? (i := 5) rfl), rfl⟩⟩
theorem fX9_48 : FL RX9 48 9 8 := ⟨by decide, by decide, ⟨ch2_11 _ (List.mem_of_getElem? (i := 6) rfl), rfl⟩⟩
theorem fX9_55 : FL RX9 55 9 9 := ⟨by decide, by decide, ⟨ch2_11 _ (List.mem_of_getElem? (i := 7) rfl), rfl⟩⟩
theorem fX9_127 : FL RX9 127 9 10 := ⟨by decide, by decide, ⟨ch2_11 _ (List.mem_of_getElem? (i := 8) rfl), rfl⟩⟩
theorem fX9_59 : FL RX9 59 9 11 := ⟨by decide, by decide, ⟨ch2_11 _ (List.mem_of_getElem? (i := 9) rfl), rfl⟩⟩
theorem fX9_62 : FL RX9 62 9 12 := ⟨by decide, by decide, ⟨ch2_11 _ (List.mem_of_getElem? (i := 10) rfl), rfl⟩⟩
theorem fX9_65 : FL RX9 65 9 13 := ⟨by decide, by decide, ⟨ch2_11 _ (List.mem_of_getElem? (i := 11) rfl), rfl⟩⟩
theorem fX9_71 : FL RX9 71 9 14 := ⟨by decide, by decide, ⟨ch2_11 _ (List.mem_of_getElem? (i := 12) rfl), rfl⟩⟩
theorem fX9_78 : FL RX9 78 9 15 := ⟨by decide, by decide, ⟨ch2_11 _ (List.mem_of_getElem? (i := 13) rfl), rfl⟩⟩
theorem fX9_85 : FL RX9 85 9 16 := ⟨by decide, by decide, ⟨ch2_11 _ (List.mem_of_getElem? (i := 14) rfl), rfl⟩⟩
theorem fX10_102 : FL RX10 102 10 0 := ⟨by decide, by decide, ⟨ch7_0 _ (List.mem_of_getElem? (i := 15) rfl), rfl⟩⟩
theorem fX10_7 : FL RX10 7 10 1 := ⟨by decide, by decide, ⟨ch7_1 _ (List.mem_of_getElem? (i := 0) rfl), rfl⟩⟩
theorem fX10_273 : FL RX10 273 10 2 := ⟨by decide, by decide, ⟨ch7_1 _ (List.mem_of_getElem? (i := 1) rfl), rfl⟩⟩
theorem fX10_276 : FL RX10 276 10 3 := ⟨by decide, by decide, ⟨ch7_1 _ (List.mem_of_getElem? (i := 2) rfl), rfl⟩⟩
theorem fX10_13 : FL RX10 13 10 4 := ⟨by decide, by decide, ⟨ch7_1 _ (List.mem_of_getElem? (i := 3) rfl), rfl⟩⟩
theorem fX10_16 : FL RX10 16 10 5 := ⟨by decide, by decide, ⟨ch7_1 _ (List.mem_of_getElem? (i := 4) rfl), rfl⟩⟩
theorem fX10_19 : FL RX10 19 10 6 := ⟨by decide, by decide, ⟨ch7_1 _ (List.mem_of_getElem? (i := 5) rfl), rfl⟩⟩
theorem fX10_22 : FL RX10 22 10 7 := ⟨by decide, by decide, ⟨ch7_1 _ (List.mem_of_getElem? (i := 6) rfl), rfl⟩⟩
theorem fX10_26 : FL RX10 26 10 8 := ⟨by decide, by decide, ⟨ch7_1 _ (List.mem_of_getElem? (i := 7) rfl), rfl⟩⟩
theorem fX10_29 : FL RX10 29 10 9 := ⟨by decide, by decide, ⟨ch7_1 _ (List.mem_of_getElem? (i := 8) rfl), rfl⟩⟩
theorem fX10_32 : FL RX10 32 10 10 := ⟨by decide, by decide, ⟨ch7_1 _ (List.mem_of_getElem? (i := 9) rfl), rfl⟩⟩
theorem fX10_36 : FL RX10 36 10 11 := ⟨by decide, by decide, ⟨ch7_1 _ (List.mem_of_getElem? (i := 10) rfl), rfl⟩⟩
theorem fX10_105 : FL RX10 105 10 12 := ⟨by decide, by decide, ⟨ch7_1 _ (List.mem_of_getElem? (i := 11) rfl), rfl⟩⟩
theorem fX10_158 : FL RX10 158 10 13 := ⟨by decide, by decide, ⟨ch7_1 _ (List.mem_of_getElem? (i := 12) rfl), rfl⟩⟩
theorem fX10_39 : FL RX10 39 10 14 := ⟨by decide, by decide, ⟨ch7_1 _ (List.mem_of_getElem? (i := 13) rfl), rfl⟩⟩
theorem fX10_42 : FL RX10 42 10 15 := ⟨by decide, by decide, ⟨ch7_1 _ (List.mem_of_getElem? (i := 14) rfl), rfl⟩⟩
theorem fX10_112 : FL RX10 112 10 16 := ⟨by decide, by decide, ⟨ch7_1 _ (List.mem_of_getElem? (i := 15) rfl), rfl⟩⟩
theorem fX10_115 : FL RX10 115 10 17 := ⟨by decide, by decide, ⟨ch7_2 _ (List.mem_of_getElem? (i := 0) rfl), rfl⟩⟩
theorem fX10_135 : FL RX10 135 10 18 := ⟨by decide, by decide, ⟨ch7_2 _ (List.mem_of_getElem? (i := 1) rfl), rfl⟩⟩
theorem fX10_122 : FL RX10 122 10 19 := ⟨by decide, by decide, ⟨ch7_2 _ (List.mem_of_getElem? (i := 2) rfl), rfl⟩⟩
theorem fX10_145 : FL RX10 145 10 20 := ⟨by decide, by decide, ⟨ch7_2 _ (List.mem_of_getElem? (i := 3) rfl), rfl⟩⟩
theorem fX10_129 : FL RX10 129 10 21 := ⟨by decide, by decide, ⟨ch7_2 _ (List.mem_of_getElem? (i := 4) rfl), rfl⟩⟩
theorem fX10_132 : FL RX10 132 10 22 := ⟨by decide, by decide, ⟨ch7_2 _ (List.mem_of_getElem? (i := 5) rfl), rfl⟩⟩
theorem fX10_125 : FL RX10 125 10 23 := ⟨by decide, by decide, ⟨ch7_2 _ (List.mem_of_getElem? (i := 6) rfl), rfl⟩⟩
theorem fX10_231 : FL RX10 231 10 24 := ⟨by decide, by decide, ⟨ch7_2 _ (List.mem_of_getElem? (i := 7) rfl), rfl⟩⟩
theorem fX10_224 : FL RX10 224 10 25 := ⟨by decide, by decide, ⟨ch7_2 _ (List.mem_of_getElem? (i := 8) rfl), rfl⟩⟩
theorem fX10_237 : FL RX10 237 10 26 := ⟨by decide, by decide, ⟨ch7_2 _ (List.mem_of_getElem? (i := 9) rfl), rfl⟩⟩
theorem fX10_250 : FL RX10 250 10 27 := ⟨by decide, by decide, ⟨ch7_2 _ (List.mem_of_getElem? (i := 10) rfl), rfl⟩⟩
theorem fX10_253 : FL RX10 253 10 28 := ⟨by decide, by decide, ⟨ch7_2 _ (List.mem_of_getElem? (i := 11) rfl), rfl⟩⟩
theorem fX10_260 : FL RX10 260 10 29 := ⟨by decide, by decide, ⟨ch7_2 _ (List.mem_of_getElem? (i := 12) rfl), rfl⟩⟩
theorem fX10_171 : FL RX10 171 10 30 := ⟨by decide, by decide, ⟨ch7_2 _ (List.mem_of_getElem? (i := 13) rfl), rfl⟩⟩
theorem fX10_190 : FL RX10 190 10 31 := ⟨by decide, by decide, ⟨ch7_2 _ (List.mem_of_getElem? (i := 14) rfl), rfl⟩⟩
theorem fX10_193 : FL RX10 193 10 32 := ⟨by decide, by decide, ⟨ch7_2 _ (List.mem_of_getElem? (i := 15) rfl), rfl⟩⟩
theorem fX10_174 : FL RX10 174 10 33 := ⟨by decide, by decide, ⟨ch7_3 _ (List.mem_of_getElem? (i := 0) rfl), rfl⟩⟩
theorem fX10_196 : FL RX10 196 10 34 := ⟨by decide, by decide, ⟨ch7_3 _ (List.mem_of_getElem? (i := 1) rfl), rfl⟩⟩
theorem fX10_45 : FL RX10 45 10 35 := ⟨by decide, by decide, ⟨ch7_3 _ (List.mem_of_getElem? (i := 2) rfl), rfl⟩⟩
theorem fX10_48 : FL RX10 48 10 36 := ⟨by decide, by decide, ⟨ch7_3 _ (List.mem_of_getElem? (i := 3) rfl), rfl⟩⟩
theorem fX10_51 : FL RX10 51 10 37 := ⟨by decide, by decide, ⟨ch7_3 _ (List.mem_of_getElem? (i := 4) rfl), rfl⟩⟩
theorem fX10_54 : FL RX10 54 10 38 := ⟨by decide, by decide, ⟨ch7_3 _ (List.mem_of_getElem? (i := 5) rfl), rfl⟩⟩
theorem fX10_57 : FL RX10 57 10 39 := ⟨by decide, by decide, ⟨ch7_3 _ (List.mem_of_getElem? (i := 6) rfl), rfl⟩⟩
theorem fX10_60 : FL RX10 60 10 40 := ⟨by decide, by decide, ⟨ch7_3 _ (List.mem_of_getElem? (i := 7) rfl), rfl⟩⟩
theorem fX10_63 : FL RX10 63 10 41 := ⟨by decide, by decide, ⟨ch7_3 _ (List.mem_of_getElem? (i := 8) rfl), rfl⟩⟩
theorem fX10_66 : FL RX10 66 10 42 := ⟨by decide, by decide, ⟨ch7_3 _ (List.mem_of_getElem? (i := 9) rfl), rfl⟩⟩
theorem fX10_69 : FL RX10 69 10 43 := ⟨by decide, by decide, ⟨ch7_3 _ (List.mem_of_getElem? (i := 10) rfl), rfl⟩⟩
theorem fX10_283 : FL RX10 283 10 44 := ⟨by decide, by decide, ⟨ch7_3 _ (List.mem_of_getElem? (i := 11) rfl), rfl⟩⟩
theorem fX10_72 : FL RX10 72 10 45 := ⟨by decide, by decide, ⟨ch7_3 _ (List.mem_of_getElem? (i := 12) rfl), rfl⟩⟩
theorem fX10_75 : FL RX10 75 10 46 := ⟨by decide, by decide, ⟨ch7_3 _ (List.mem_of_getElem? (i := 13) rfl), rfl⟩⟩
theorem fX10_303 : FL RX10 303 10 47 := ⟨by decide, by decide, ⟨ch7_3 _ (List.mem_of_getElem? (i := 14) rfl), rfl⟩⟩
theorem fX10_330 : FL RX10 330 10 48 := ⟨by decide, by decide, ⟨ch7_3 _ (List.mem_of_getElem? (i := 15) rfl), rfl⟩⟩
theorem fX10_78 : FL RX10 78 10 49 := ⟨by decide, by decide, ⟨ch7_4 _ (List.mem_of_getElem? (i := 0) rfl), rfl⟩⟩
theorem fX10_81 : FL RX10 81 10 50 := ⟨by decide, by decide, ⟨ch7_4 _ (List.mem_of_getElem? (i := 1) rfl), rfl⟩⟩
theorem fX10_286 : FL RX10 286 10 51 := ⟨by decide, by decide, ⟨ch7_4 _ (List.mem_of_getElem? (i := 2) rfl), rfl⟩⟩
theorem fX10_84 : FL RX10 84 10 52 := ⟨by decide, by decide, ⟨ch7_4 _ (List.mem_of_getElem? (i := 3) rfl), rfl⟩⟩
theorem fX10_87 : FL RX10 87 10 53 := ⟨by decide, by decide, ⟨ch7_4 _ (List.mem_of_getElem? (i := 4) rfl), rfl⟩⟩
theorem fX10_90 : FL RX10 90 10 54 := ⟨by decide, by decide, ⟨ch7_4 _ (List.mem_of_getElem? (i := 5) rfl), rfl⟩⟩
theorem fX10_435 : FL RX10 435 10 55 := ⟨by decide, by decide, ⟨ch7_4 _ (List.mem_of_getElem? (i := 6) rfl), rfl⟩⟩
theorem fX10_289 : FL RX10 289 10 56 := ⟨by decide, by decide, ⟨ch7_4 _ (List.mem_of_getElem? (i := 7) rfl), rfl⟩⟩
theorem fX10_445 : FL RX10 445 10 57 := ⟨by decide, by decide, ⟨ch7_4 _ (List.mem_of_getElem? (i := 8) rfl), rfl⟩⟩
theorem fX10_448 : FL RX10 448 10 58 := ⟨by decide, by decide, ⟨ch7_4 _ (List.mem_of_getElem? (i := 9) rfl), rfl⟩⟩
theorem fX10_93 : FL RX10 93 10 59 := ⟨by decide, by decide, ⟨ch7_4 _ (List.mem_of_getElem? (i := 10) rfl), rfl⟩⟩
theorem fX10_96 : FL RX10 96 10 60 := ⟨by decide, by decide, ⟨ch7_4 _ (List.mem_of_getElem? (i := 11) rfl), rfl⟩⟩
theorem fX10_99 : FL RX10 99 10 61 := ⟨by decide, by decide, ⟨ch7_4 _ (List.mem_of_getElem? (i := 12) rfl), rfl⟩⟩
theorem lL_110 : inG (.methodLink RL 110 yX9_init) := ⟨ch1_1 _ (List.mem_of_getElem? (i := 12) rfl), rfl⟩
theorem lX9_30 : inG (.methodLink RX9 30 yX1_init) := ⟨ch1_6 _ (List.mem_of_getElem? (i := 5) rfl), rfl⟩
theorem lX1_49 : inG (.methodLink RX1 49 yX1_clear) := ⟨ch1_7 _ (List.mem_of_getElem? (i := 10) rfl), rfl⟩
theorem lX1_65 : inG (.methodLink RX1 65 yJ7_fill_53178) := ⟨ch1_7 _ (List.mem_of_getElem? (i := 14) rfl), rfl⟩
theorem lX9_89 : inG (.methodLink RX9 89 yX6_begin) := ⟨ch2_10 _ (List.mem_of_getElem? (i := 0) rfl), rfl⟩
theorem lX6_61 : inG (.methodLink RX6 61 yX6_copyRow) := ⟨ch2_10 _ (List.mem_of_getElem? (i := 4) rfl), rfl⟩
theorem lX6_75 : inG (.methodLink RX6 75 yJ9_min_7cf53) := ⟨ch2_10 _ (List.mem_of_getElem? (i := 7) rfl), rfl⟩
theorem lX6_65 : inG (.methodLink RX6 65 yJ7_fill_53178) := ⟨ch2_10 _ (List.mem_of_getElem? (i := 13) rfl), rfl⟩
theorem lL_114 : inG (.methodLink RL 114 yX9_feed) := ⟨ch2_14 _ (List.mem_of_getElem? (i := 2) rfl), rfl⟩
theorem lX9_96 : inG (.methodLink RX9 96 yX9_putBytes) := ⟨ch2_14 _ (List.mem_of_getElem? (i := 6) rfl), rfl⟩
theorem lL_129 : inG (.methodLink RL 129 yX9_fault) := ⟨ch2_14 _ (List.mem_of_getElem? (i := 10) rfl), rfl⟩
theorem lL_143 : inG (.methodLink RL 143 yX9_days) := ⟨ch2_14 _ (List.mem_of_getElem? (i := 14) rfl), rfl⟩
theorem lX9_119 : inG (.methodLink RX9 119 yX9_refuse) := ⟨ch3_0 _ (List.mem_of_getElem? (i := 2) rfl), rfl⟩
theorem lX9_217 : inG (.methodLink RX9 217 yX0_keep) := ⟨ch3_0 _ (List.mem_of_getElem? (i := 6) rfl), rfl⟩
theorem lX0_30 : inG (.methodLink RX0 30 yX6_pack) := ⟨ch3_0 _ (List.mem_of_getElem? (i := 10) rfl), rfl⟩
theorem lX9_221 : inG (.methodLink RX9 221 yX6_passDay) := ⟨ch3_0 _ (List.mem_of_getElem? (i := 14) rfl), rfl⟩
theorem lX6_87 : inG (.methodLink RX6 87 yX6_lookAround) := ⟨ch3_1 _ (List.mem_of_getElem? (i := 2) rfl), rfl⟩
theorem lX6_162 : inG (.methodLink RX6 162 yX6_placeOn) := ⟨ch3_1 _ (List.mem_of_getElem? (i := 6) rfl), rfl⟩
theorem lX6_94 : inG (.methodLink RX6 94 yX6_lookersAt) := ⟨ch3_1 _ (List.mem_of_getElem? (i := 10) rfl), rfl⟩
theorem lX6_97 : inG (.methodLink RX6 97 yX6_wearForADay) := ⟨ch3_1 _ (List.mem_of_getElem? (i := 14) rfl), rfl⟩
theorem lX6_117 : inG (.methodLink RX6 117 yX6_shameBy) := ⟨ch3_2 _ (List.mem_of_getElem? (i := 2) rfl), rfl⟩
theorem lX6_129 : inG (.methodLink RX6 129 yJ6_bitCount_0f7a4) := ⟨ch3_2 _ (List.mem_of_getElem? (i := 6) rfl), rfl⟩
theorem lX6_139 : inG (.methodLink RX6 139 yX4_isTold) := ⟨ch3_2 _ (List.mem_of_getElem? (i := 12) rfl), rfl⟩
theorem lX6_149 : inG (.methodLink RX6 149 yX4_result) := ⟨ch3_3 _ (List.mem_of_getElem? (i := 0) rfl), rfl⟩
theorem lX4_16 : inG (.methodLink RX4 16 yX4_two) := ⟨ch3_3 _ (List.mem_of_getElem? (i := 4) rfl), rfl⟩
theorem lX6_114 : inG (.methodLink RX6 114 yJ9_max_7cf53) := ⟨ch3_3 _ (List.mem_of_getElem? (i := 7) rfl), rfl⟩
theorem lX6_123 : inG (.methodLink RX6 123 yX6_putOn) := ⟨ch3_3 _ (List.mem_of_getElem? (i := 10) rfl), rfl⟩
theorem lX6_101 : inG (.methodLink RX6 101 yX6_countWorn) := ⟨ch3_3 _ (List.mem_of_getElem? (i := 14) rfl), rfl⟩
theorem lX6_107 : inG (.methodLink RX6 107 yX6_givesBack) := ⟨ch3_4 _ (List.mem_of_getElem? (i := 2) rfl), rfl⟩
theorem lX6_111 : inG (.methodLink RX6 111 yX6_putOffAll) := ⟨ch3_4 _ (List.mem_of_getElem? (i := 6) rfl), rfl⟩
theorem lL_160 : inG (.methodLink RL 160 yX9_undo) := ⟨ch3_4 _ (List.mem_of_getElem? (i := 10) rfl), rfl⟩
theorem lX9_241 : inG (.methodLink RX9 241 yX0_takeBack) := ⟨ch3_4 _ (List.mem_of_getElem? (i := 14) rfl), rfl⟩
theorem lX0_34 : inG (.methodLink RX0 34 yX6_unpack) := ⟨ch3_5 _ (List.mem_of_getElem? (i := 2) rfl), rfl⟩
theorem lL_198 : inG (.methodLink RL 198 yX9_forget) := ⟨ch3_5 _ (List.mem_of_getElem? (i := 6) rfl), rfl⟩
theorem lX9_126 : inG (.methodLink RX9 126 yX2_clear) := ⟨ch3_5 _ (List.mem_of_getElem? (i := 10) rfl), rfl⟩
theorem lL_238 : inG (.methodLink RL 238 yX9_image) := ⟨ch3_5 _ (List.mem_of_getElem? (i := 14) rfl), rfl⟩
theorem lX9_360 : inG (.methodLink RX9 360 yX6_pack) := ⟨ch3_6 _ (List.mem_of_getElem? (i := 2) rfl), rfl⟩
theorem lX9_364 : inG (.methodLink RX9 364 yX0_copyFrom) := ⟨ch3_6 _ (List.mem_of_getElem? (i := 3) rfl), rfl⟩
theorem lX9_368 : inG (.methodLink RX9 368 yX2_copyFrom) := ⟨ch3_6 _ (List.mem_of_getElem? (i := 8) rfl), rfl⟩
theorem lL_242 : inG (.methodLink RL 242 yX9_restore) := ⟨ch3_6 _ (List.mem_of_getElem? (i := 13) rfl), rfl⟩
theorem lX9_371 : inG (.methodLink RX9 371 yX6_unpack) := ⟨ch3_7 _ (List.mem_of_getElem? (i := 1) rfl), rfl⟩
theorem lL_119 : inG (.methodLink RL 119 yL_city) := ⟨ch3_7 _ (List.mem_of_getElem? (i := 2) rfl), rfl⟩
theorem lL_7 : inG (.methodLink RL 7 yX9_city) := ⟨ch3_7 _ (List.mem_of_getElem? (i := 6) rfl), rfl⟩
theorem lX9_103 : inG (.methodLink RX9 103 yX3_begin) := ⟨ch3_11 _ (List.mem_of_getElem? (i := 8) rfl), rfl⟩
theorem lX3_19 : inG (.methodLink RX3 19 yJ9_min_7cf53) := ⟨ch3_11 _ (List.mem_of_getElem? (i := 12) rfl), rfl⟩
theorem lX3_33 : inG (.methodLink RX3 33 yX1_clear) := ⟨ch3_11 _ (List.mem_of_getElem? (i := 13) rfl), rfl⟩
theorem lX3_54 : inG (.methodLink RX3 54 yX3_next) := ⟨ch3_11 _ (List.mem_of_getElem? (i := 14) rfl), rfl⟩
theorem lX3_63 : inG (.methodLink RX3 63 yX3_nextWord) := ⟨ch3_12 _ (List.mem_of_getElem? (i := 2) rfl), rfl⟩
theorem lX3_66 : inG (.methodLink RX3 66 yX3_nextNumber) := ⟨ch3_12 _ (List.mem_of_getElem? (i := 6) rfl), rfl⟩
theorem lX3_71 : inG (.methodLink RX3 71 yJ0_indexOf_0f7a4) := ⟨ch3_12 _ (List.mem_of_getElem? (i := 11) rfl), rfl⟩
theorem lJ0_633 : inG (.methodLink RJ0 633 yJ0_indexOf_7cf53) := ⟨ch3_12 _ (List.mem_of_getElem? (i := 15) rfl), rfl⟩
theorem lJ0_492 : inG (.methodLink RJ0 492 yJ0_isLatin1_aae02) := ⟨ch3_13 _ (List.mem_of_getElem? (i := 3) rfl), rfl⟩
theorem lJ0_505 : inG (.methodLink RJ0 505 yJ0_length_8abf5) := ⟨ch3_13 _ (List.mem_of_getElem? (i := 9) rfl), rfl⟩
theorem lJ0_335 : inG (.methodLink RJ0 335 yJ0_coder_7d493) := ⟨ch3_13 _ (List.mem_of_getElem? (i := 13) rfl), rfl⟩
theorem lJ0_637 : inG (.methodLink RJ0 637 yJ1_indexOf_4cfef) := ⟨ch3_14 _ (List.mem_of_getElem? (i := 1) rfl), rfl⟩
theorem lJ1_88 : inG (.methodLink RJ1 88 yJ1_canEncode_9a6ad) := ⟨ch3_14 _ (List.mem_of_getElem? (i := 4) rfl), rfl⟩
theorem lJ1_92 : inG (.methodLink RJ1 92 yJ9_max_7cf53) := ⟨ch3_14 _ (List.mem_of_getElem? (i := 7) rfl), rfl⟩
theorem lJ1_38 : inG (.methodLink RJ1 38 yJ9_min_7cf53) := ⟨ch3_14 _ (List.mem_of_getElem? (i := 8) rfl), rfl⟩
theorem lJ1_95 : inG (.methodLink RJ1 95 yJ1_indexOfChar_4cfef) := ⟨ch3_14 _ (List.mem_of_getElem? (i := 9) rfl), rfl⟩
theorem lJ0_640 : inG (.methodLink RJ0 640 yJ2_indexOf_4cfef) := ⟨ch3_14 _ (List.mem_of_getElem? (i := 12) rfl), rfl⟩
theorem lJ2_224 : inG (.methodLink RJ2 224 yJ9_max_7cf53) := ⟨ch3_14 _ (List.mem_of_getElem? (i := 15) rfl), rfl⟩
theorem lJ2_183 : inG (.methodLink RJ2 183 yJ9_min_7cf53) := ⟨ch4_0 _ (List.mem_of_getElem? (i := 0) rfl), rfl⟩
theorem lJ2_228 : inG (.methodLink RJ2 228 yJ2_indexOfChar_4cfef) := ⟨ch4_0 _ (List.mem_of_getElem? (i := 2) rfl), rfl⟩
theorem lJ2_96 : inG (.methodLink RJ2 96 yJ2_checkBoundsBeginEnd_d044e) := ⟨ch4_0 _ (List.mem_of_getElem? (i := 5) rfl), rfl⟩
theorem lJ2_48 : inG (.methodLink RJ2 48 yJ2_length_9d52b) := ⟨ch4_0 _ (List.mem_of_getElem? (i := 8) rfl), rfl⟩
theorem lJ2_241 : inG (.methodLink RJ2 241 yJ0_checkBoundsBeginEnd_23922) := ⟨ch4_0 _ (List.mem_of_getElem? (i := 11) rfl), rfl⟩
theorem lJ0_1062 : inG (.methodLink RJ0 1062 yJ3_checkFromToIndex_8c36e) := ⟨ch4_1 _ (List.mem_of_getElem? (i := 0) rfl), rfl⟩
theorem lJ2_244 : inG (.methodLink RJ2 244 yJ2_indexOfCharUnsafe_4cfef) := ⟨ch4_1 _ (List.mem_of_getElem? (i := 3) rfl), rfl⟩
theorem lJ2_71 : inG (.methodLink RJ2 71 yJ2_getChar_3b067) := ⟨ch4_1 _ (List.mem_of_getElem? (i := 6) rfl), rfl⟩
theorem lJ2_232 : inG (.methodLink RJ2 232 yJ2_indexOfSupplementary_4cfef) := ⟨ch4_1 _ (List.mem_of_getElem? (i := 15) rfl), rfl⟩
theorem lJ2_164 : inG (.methodLink RJ2 164 yJ11_isValidCodePoint_9a6ad) := ⟨ch4_2 _ (List.mem_of_getElem? (i := 2) rfl), rfl⟩
theorem lJ2_157 : inG (.methodLink RJ2 157 yJ11_highSurrogate_5068e) := ⟨ch4_2 _ (List.mem_of_getElem? (i := 5) rfl), rfl⟩
theorem lJ2_161 : inG (.methodLink RJ2 161 yJ11_lowSurrogate_5068e) := ⟨ch4_2 _ (List.mem_of_getElem? (i := 9) rfl), rfl⟩
theorem lX9_106 : inG (.methodLink RX9 106 yX3_hasMore) := ⟨ch4_2 _ (List.mem_of_getElem? (i := 13) rfl), rfl⟩
theorem lX9_110 : inG (.methodLink RX9 110 yX3_line) := ⟨ch4_3 _ (List.mem_of_getElem? (i := 1) rfl), rfl⟩
theorem lX3_92 : inG (.methodLink RX3 92 yX3_isWord) := ⟨ch4_3 _ (List.mem_of_getElem? (i := 6) rfl), rfl⟩
theorem lX3_83 : inG (.methodLink RX3 83 yJ0_length_8abf5) := ⟨ch4_3 _ (List.mem_of_getElem? (i := 10) rfl), rfl⟩
theorem lX3_86 : inG (.methodLink RX3 86 yJ0_charAt_5068e) := ⟨ch4_3 _ (List.mem_of_getElem? (i := 11) rfl), rfl⟩
theorem lJ0_495 : inG (.methodLink RJ0 495 yJ1_charAt_3b067) := ⟨ch4_3 _ (List.mem_of_getElem? (i := 15) rfl), rfl⟩
theorem lJ1_9 : inG (.methodLink RJ1 9 yJ0_checkIndex_df160) := ⟨ch4_4 _ (List.mem_of_getElem? (i := 2) rfl), rfl⟩
theorem lJ0_1059 : inG (.methodLink RJ0 1059 yJ3_checkIndex_8e157) := ⟨ch4_4 _ (List.mem_of_getElem? (i := 5) rfl), rfl⟩
theorem lJ0_498 : inG (.methodLink RJ0 498 yJ2_charAt_3b067) := ⟨ch4_4 _ (List.mem_of_getElem? (i := 8) rfl), rfl⟩
theorem lJ2_67 : inG (.methodLink RJ2 67 yJ2_checkIndex_2214a) := ⟨ch4_4 _ (List.mem_of_getElem? (i := 11) rfl), rfl⟩
theorem lJ2_414 : inG (.methodLink RJ2 414 yJ0_checkIndex_df160) := ⟨ch4_4 _ (List.mem_of_getElem? (i := 14) rfl), rfl⟩
theorem lX3_96 : inG (.methodLink RX3 96 yX3_placesLine) := ⟨ch4_4 _ (List.mem_of_getElem? (i := 15) rfl), rfl⟩
theorem lX3_131 : inG (.methodLink RX3 131 yX3_fail) := ⟨ch4_5 _ (List.mem_of_getElem? (i := 3) rfl), rfl⟩
theorem lX3_147 : inG (.methodLink RX3 147 yX3_nextIsWithin) := ⟨ch4_5 _ (List.mem_of_getElem? (i := 7) rfl), rfl⟩
theorem lX3_141 : inG (.methodLink RX3 141 yX3_nextIsNumber) := ⟨ch4_5 _ (List.mem_of_getElem? (i := 11) rfl), rfl⟩
theorem lX3_138 : inG (.methodLink RX3 138 yX3_isFitNumber) := ⟨ch4_5 _ (List.mem_of_getElem? (i := 15) rfl), rfl⟩
theorem lX3_153 : inG (.methodLink RX3 153 yX3_lineEnd) := ⟨ch4_6 _ (List.mem_of_getElem? (i := 3) rfl), rfl⟩
theorem lX3_134 : inG (.methodLink RX3 134 yX3_isSign) := ⟨ch4_6 _ (List.mem_of_getElem? (i := 7) rfl), rfl⟩
theorem lX3_102 : inG (.methodLink RX3 102 yX3_personLine) := ⟨ch4_6 _ (List.mem_of_getElem? (i := 12) rfl), rfl⟩
theorem lX3_163 : inG (.methodLink RX3 163 yX3_isFitPlace) := ⟨ch4_7 _ (List.mem_of_getElem? (i := 0) rfl), rfl⟩
theorem lX3_110 : inG (.methodLink RX3 110 yX3_thingLine) := ⟨ch4_7 _ (List.mem_of_getElem? (i := 6) rfl), rfl⟩
theorem lX3_181 : inG (.methodLink RX3 181 yX3_nextIsPerson) := ⟨ch4_7 _ (List.mem_of_getElem? (i := 10) rfl), rfl⟩
theorem lX3_115 : inG (.methodLink RX3 115 yX3_termLine) := ⟨ch4_8 _ (List.mem_of_getElem? (i := 0) rfl), rfl⟩
theorem lX3_123 : inG (.methodLink RX3 123 yX3_ruleLine) := ⟨ch4_8 _ (List.mem_of_getElem? (i := 5) rfl), rfl⟩
theorem lX3_192 : inG (.methodLink RX3 192 yX4_isTold) := ⟨ch4_8 _ (List.mem_of_getElem? (i := 9) rfl), rfl⟩
theorem lX3_200 : inG (.methodLink RX3 200 yX3_beginRule) := ⟨ch4_8 _ (List.mem_of_getElem? (i := 10) rfl), rfl⟩
theorem lX3_209 : inG (.methodLink RX3 209 yX3_part) := ⟨ch4_8 _ (List.mem_of_getElem? (i := 14) rfl), rfl⟩
theorem lX3_233 : inG (.methodLink RX3 233 yX3_putPart) := ⟨ch4_9 _ (List.mem_of_getElem? (i := 2) rfl), rfl⟩
theorem lX3_264 : inG (.methodLink RX3 264 yX1_putCode) := ⟨ch4_9 _ (List.mem_of_getElem? (i := 6) rfl), rfl⟩
theorem lX3_236 : inG (.methodLink RX3 236 yX3_wordOfPart) := ⟨ch4_9 _ (List.mem_of_getElem? (i := 10) rfl), rfl⟩
theorem lX3_239 : inG (.methodLink RX3 239 yX3_await) := ⟨ch4_9 _ (List.mem_of_getElem? (i := 15) rfl), rfl⟩
theorem lX3_244 : inG (.methodLink RX3 244 yX3_valueOfShames) := ⟨ch4_10 _ (List.mem_of_getElem? (i := 3) rfl), rfl⟩
theorem lX3_247 : inG (.methodLink RX3 247 yX3_valueOfReturns) := ⟨ch4_10 _ (List.mem_of_getElem? (i := 14) rfl), rfl⟩
theorem lX3_213 : inG (.methodLink RX3 213 yX3_behindPart) := ⟨ch4_11 _ (List.mem_of_getElem? (i := 4) rfl), rfl⟩
theorem lX3_267 : inG (.methodLink RX3 267 yX3_close) := ⟨ch4_11 _ (List.mem_of_getElem? (i := 8) rfl), rfl⟩
theorem lX3_216 : inG (.methodLink RX3 216 yX3_putTighter) := ⟨ch4_11 _ (List.mem_of_getElem? (i := 12) rfl), rfl⟩
theorem lX3_283 : inG (.methodLink RX3 283 yJ9_max_7cf53) := ⟨ch4_12 _ (List.mem_of_getElem? (i := 0) rfl), rfl⟩
theorem lX3_276 : inG (.methodLink RX3 276 yX3_bindingOnTop) := ⟨ch4_12 _ (List.mem_of_getElem? (i := 1) rfl), rfl⟩
theorem lX3_270 : inG (.methodLink RX3 270 yX3_operatorRead) := ⟨ch4_12 _ (List.mem_of_getElem? (i := 7) rfl), rfl⟩
theorem lX9_123 : inG (.methodLink RX9 123 yX0_clear) := ⟨ch4_12 _ (List.mem_of_getElem? (i := 14) rfl), rfl⟩
theorem lL_133 : inG (.methodLink RL 133 yL_count) := ⟨ch4_13 _ (List.mem_of_getElem? (i := 2) rfl), rfl⟩
theorem lL_15 : inG (.methodLink RL 15 yX9_count) := ⟨ch4_13 _ (List.mem_of_getElem? (i := 6) rfl), rfl⟩
theorem lX9_131 : inG (.methodLink RX9 131 yX9_needWhat) := ⟨ch4_13 _ (List.mem_of_getElem? (i := 10) rfl), rfl⟩
theorem lX9_150 : inG (.methodLink RX9 150 yX6_wornBits) := ⟨ch4_14 _ (List.mem_of_getElem? (i := 12) rfl), rfl⟩
theorem lX9_154 : inG (.methodLink RX9 154 yX5_rings) := ⟨ch5_0 _ (List.mem_of_getElem? (i := 0) rfl), rfl⟩
theorem lX5_33 : inG (.methodLink RX5 33 yX5_cameTo) := ⟨ch5_0 _ (List.mem_of_getElem? (i := 4) rfl), rfl⟩
theorem lX5_37 : inG (.methodLink RX5 37 yX6_wearsBits) := ⟨ch5_0 _ (List.mem_of_getElem? (i := 8) rfl), rfl⟩
theorem lX5_41 : inG (.methodLink RX5 41 yX5_ownersOf) := ⟨ch5_0 _ (List.mem_of_getElem? (i := 12) rfl), rfl⟩
theorem lX9_158 : inG (.methodLink RX9 158 yX6_shameOfAll) := ⟨ch5_0 _ (List.mem_of_getElem? (i := 15) rfl), rfl⟩
theorem lL_136 : inG (.methodLink RL 136 yL_person) := ⟨ch5_1 _ (List.mem_of_getElem? (i := 3) rfl), rfl⟩
theorem lL_20 : inG (.methodLink RL 20 yX9_person) := ⟨ch5_1 _ (List.mem_of_getElem? (i := 6) rfl), rfl⟩
theorem lX9_165 : inG (.methodLink RX9 165 yX9_needPerson) := ⟨ch5_1 _ (List.mem_of_getElem? (i := 10) rfl), rfl⟩
theorem lX9_171 : inG (.methodLink RX9 171 yX6_placeOn) := ⟨ch5_1 _ (List.mem_of_getElem? (i := 14) rfl), rfl⟩
theorem lX9_180 : inG (.methodLink RX9 180 yX6_wearsBits) := ⟨ch5_1 _ (List.mem_of_getElem? (i := 15) rfl), rfl⟩
theorem lX9_184 : inG (.methodLink RX9 184 yX6_load) := ⟨ch5_2 _ (List.mem_of_getElem? (i := 0) rfl), rfl⟩
theorem lX6_165 : inG (.methodLink RX6 165 yX6_wearsBits) := ⟨ch5_2 _ (List.mem_of_getElem? (i := 4) rfl), rfl⟩
theorem lX6_179 : inG (.methodLink RX6 179 yX6_weightOf) := ⟨ch5_2 _ (List.mem_of_getElem? (i := 5) rfl), rfl⟩
theorem lX9_187 : inG (.methodLink RX9 187 yX6_missed) := ⟨ch5_2 _ (List.mem_of_getElem? (i := 9) rfl), rfl⟩
theorem lX6_172 : inG (.methodLink RX6 172 yX6_ownsBits) := ⟨ch5_2 _ (List.mem_of_getElem? (i := 13) rfl), rfl⟩
theorem lX6_175 : inG (.methodLink RX6 175 yX6_wornBits) := ⟨ch5_3 _ (List.mem_of_getElem? (i := 1) rfl), rfl⟩
theorem lX9_190 : inG (.methodLink RX9 190 yX6_wealth) := ⟨ch5_3 _ (List.mem_of_getElem? (i := 2) rfl), rfl⟩
theorem lX9_193 : inG (.methodLink RX9 193 yX6_oddest) := ⟨ch5_3 _ (List.mem_of_getElem? (i := 6) rfl), rfl⟩
theorem lL_140 : inG (.methodLink RL 140 yL_thing) := ⟨ch5_3 _ (List.mem_of_getElem? (i := 10) rfl), rfl⟩
theorem lL_24 : inG (.methodLink RL 24 yX9_thing) := ⟨ch5_3 _ (List.mem_of_getElem? (i := 13) rfl), rfl⟩
theorem lX9_196 : inG (.methodLink RX9 196 yX9_needThing) := ⟨ch5_4 _ (List.mem_of_getElem? (i := 1) rfl), rfl⟩
theorem lX9_214 : inG (.methodLink RX9 214 yX6_shameToday) := ⟨ch5_4 _ (List.mem_of_getElem? (i := 5) rfl), rfl⟩
theorem lX6_126 : inG (.methodLink RX6 126 yX6_lookersOn) := ⟨ch5_4 _ (List.mem_of_getElem? (i := 9) rfl), rfl⟩
theorem lL_147 : inG (.methodLink RL 147 yL_steal) := ⟨ch5_4 _ (List.mem_of_getElem? (i := 13) rfl), rfl⟩
theorem lL_27 : inG (.methodLink RL 27 yX9_steal) := ⟨ch5_5 _ (List.mem_of_getElem? (i := 0) rfl), rfl⟩
theorem lX9_225 : inG (.methodLink RX9 225 yX6_maySteal) := ⟨ch5_5 _ (List.mem_of_getElem? (i := 4) rfl), rfl⟩
theorem lX9_229 : inG (.methodLink RX9 229 yX6_putOn) := ⟨ch5_5 _ (List.mem_of_getElem? (i := 8) rfl), rfl⟩
theorem lL_150 : inG (.methodLink RL 150 yL_back) := ⟨ch5_5 _ (List.mem_of_getElem? (i := 9) rfl), rfl⟩
theorem lL_30 : inG (.methodLink RL 30 yX9_back) := ⟨ch5_5 _ (List.mem_of_getElem? (i := 12) rfl), rfl⟩
theorem lL_153 : inG (.methodLink RL 153 yL_walk) := ⟨ch5_6 _ (List.mem_of_getElem? (i := 0) rfl), rfl⟩
theorem lL_33 : inG (.methodLink RL 33 yX9_walk) := ⟨ch5_6 _ (List.mem_of_getElem? (i := 3) rfl), rfl⟩
theorem lL_157 : inG (.methodLink RL 157 yL_dye) := ⟨ch5_6 _ (List.mem_of_getElem? (i := 7) rfl), rfl⟩
theorem lL_37 : inG (.methodLink RL 37 yX9_dye) := ⟨ch5_6 _ (List.mem_of_getElem? (i := 10) rfl), rfl⟩
theorem lL_164 : inG (.methodLink RL 164 yL_then) := ⟨ch5_6 _ (List.mem_of_getElem? (i := 14) rfl), rfl⟩
theorem lL_40 : inG (.methodLink RL 40 yX9_then) := ⟨ch5_7 _ (List.mem_of_getElem? (i := 1) rfl), rfl⟩
theorem lX9_244 : inG (.methodLink RX9 244 yX9_needWithin) := ⟨ch5_7 _ (List.mem_of_getElem? (i := 5) rfl), rfl⟩
theorem lX9_248 : inG (.methodLink RX9 248 yX7_behind) := ⟨ch5_7 _ (List.mem_of_getElem? (i := 8) rfl), rfl⟩
theorem lX7_29 : inG (.methodLink RX7 29 yX7_start) := ⟨ch5_7 _ (List.mem_of_getElem? (i := 12) rfl), rfl⟩
theorem lX7_25 : inG (.methodLink RX7 25 yX6_copyFrom) := ⟨ch5_8 _ (List.mem_of_getElem? (i := 0) rfl), rfl⟩
theorem lX7_32 : inG (.methodLink RX7 32 yX7_passDays) := ⟨ch5_8 _ (List.mem_of_getElem? (i := 4) rfl), rfl⟩
theorem lX7_36 : inG (.methodLink RX7 36 yX6_passDay) := ⟨ch5_8 _ (List.mem_of_getElem? (i := 8) rfl), rfl⟩
theorem lL_167 : inG (.methodLink RL 167 yL_later) := ⟨ch5_8 _ (List.mem_of_getElem? (i := 9) rfl), rfl⟩
theorem lL_43 : inG (.methodLink RL 43 yX9_later) := ⟨ch5_8 _ (List.mem_of_getElem? (i := 12) rfl), rfl⟩
theorem lL_170 : inG (.methodLink RL 170 yL_when) := ⟨ch5_9 _ (List.mem_of_getElem? (i := 0) rfl), rfl⟩
theorem lL_46 : inG (.methodLink RL 46 yX9_when) := ⟨ch5_9 _ (List.mem_of_getElem? (i := 3) rfl), rfl⟩
theorem lX9_252 : inG (.methodLink RX9 252 yX7_start) := ⟨ch5_9 _ (List.mem_of_getElem? (i := 7) rfl), rfl⟩
theorem lX9_255 : inG (.methodLink RX9 255 yX7_endOfWearing) := ⟨ch5_9 _ (List.mem_of_getElem? (i := 8) rfl), rfl⟩
theorem lL_173 : inG (.methodLink RL 173 yL_all) := ⟨ch5_9 _ (List.mem_of_getElem? (i := 12) rfl), rfl⟩
theorem lL_49 : inG (.methodLink RL 49 yX9_all) := ⟨ch5_9 _ (List.mem_of_getElem? (i := 15) rfl), rfl⟩
theorem lX9_259 : inG (.methodLink RX9 259 yX6_richest) := ⟨ch5_10 _ (List.mem_of_getElem? (i := 3) rfl), rfl⟩
theorem lX6_182 : inG (.methodLink RX6 182 yX6_wealth) := ⟨ch5_10 _ (List.mem_of_getElem? (i := 7) rfl), rfl⟩
theorem lX9_262 : inG (.methodLink RX9 262 yX6_mostAshamed) := ⟨ch5_10 _ (List.mem_of_getElem? (i := 8) rfl), rfl⟩
theorem lL_176 : inG (.methodLink RL 176 yL_where) := ⟨ch5_10 _ (List.mem_of_getElem? (i := 12) rfl), rfl⟩
theorem lL_52 : inG (.methodLink RL 52 yX9_where) := ⟨ch5_10 _ (List.mem_of_getElem? (i := 15) rfl), rfl⟩
theorem lX9_268 : inG (.methodLink RX9 268 yX6_lookersOn) := ⟨ch5_11 _ (List.mem_of_getElem? (i := 3) rfl), rfl⟩
theorem lL_179 : inG (.methodLink RL 179 yL_toStand) := ⟨ch5_11 _ (List.mem_of_getElem? (i := 4) rfl), rfl⟩
theorem lL_55 : inG (.methodLink RL 55 yX9_toStand) := ⟨ch5_11 _ (List.mem_of_getElem? (i := 7) rfl), rfl⟩
theorem lX9_271 : inG (.methodLink RX9 271 yX7_bestPlace) := ⟨ch5_11 _ (List.mem_of_getElem? (i := 11) rfl), rfl⟩
theorem lX7_56 : inG (.methodLink RX7 56 yX6_standAlways) := ⟨ch5_11 _ (List.mem_of_getElem? (i := 15) rfl), rfl⟩
theorem lX7_60 : inG (.methodLink RX7 60 yX7_endOfWearing) := ⟨ch5_12 _ (List.mem_of_getElem? (i := 3) rfl), rfl⟩
theorem lX7_64 : inG (.methodLink RX7 64 yX7_isSooner) := ⟨ch5_12 _ (List.mem_of_getElem? (i := 4) rfl), rfl⟩
theorem lL_182 : inG (.methodLink RL 182 yL_toSteal) := ⟨ch5_12 _ (List.mem_of_getElem? (i := 7) rfl), rfl⟩
theorem lL_58 : inG (.methodLink RL 58 yX9_toSteal) := ⟨ch5_12 _ (List.mem_of_getElem? (i := 10) rfl), rfl⟩
theorem lX9_275 : inG (.methodLink RX9 275 yX7_bestThing) := ⟨ch5_12 _ (List.mem_of_getElem? (i := 14) rfl), rfl⟩
theorem lX7_71 : inG (.methodLink RX7 71 yX6_maySteal) := ⟨ch5_13 _ (List.mem_of_getElem? (i := 2) rfl), rfl⟩
theorem lX7_74 : inG (.methodLink RX7 74 yX6_putOn) := ⟨ch5_13 _ (List.mem_of_getElem? (i := 3) rfl), rfl⟩
theorem lL_185 : inG (.methodLink RL 185 yL_watch) := ⟨ch5_13 _ (List.mem_of_getElem? (i := 4) rfl), rfl⟩
theorem lL_61 : inG (.methodLink RL 61 yX9_watch) := ⟨ch5_13 _ (List.mem_of_getElem? (i := 7) rfl), rfl⟩
theorem lX9_278 : inG (.methodLink RX9 278 yX5_fewestPlaces) := ⟨ch5_13 _ (List.mem_of_getElem? (i := 11) rfl), rfl⟩
theorem lX5_50 : inG (.methodLink RX5 50 yX5_placesOf) := ⟨ch5_13 _ (List.mem_of_getElem? (i := 15) rfl), rfl⟩
theorem lX5_69 : inG (.methodLink RX5 69 yX6_placeOn) := ⟨ch5_14 _ (List.mem_of_getElem? (i := 2) rfl), rfl⟩
theorem lX5_57 : inG (.methodLink RX5 57 yJ6_bitCount_0f7a4) := ⟨ch5_14 _ (List.mem_of_getElem? (i := 3) rfl), rfl⟩
theorem lX5_62 : inG (.methodLink RX5 62 yX5_meetsAll) := ⟨ch5_14 _ (List.mem_of_getElem? (i := 4) rfl), rfl⟩
theorem lL_188 : inG (.methodLink RL 188 yL_least) := ⟨ch5_14 _ (List.mem_of_getElem? (i := 8) rfl), rfl⟩
theorem lL_64 : inG (.methodLink RL 64 yX9_least) := ⟨ch5_14 _ (List.mem_of_getElem? (i := 11) rfl), rfl⟩
theorem lX9_282 : inG (.methodLink RX9 282 yX5_leastShame) := ⟨ch5_14 _ (List.mem_of_getElem? (i := 15) rfl), rfl⟩
theorem lX5_76 : inG (.methodLink RX5 76 yX5_listWorn) := ⟨ch6_0 _ (List.mem_of_getElem? (i := 3) rfl), rfl⟩
theorem lX5_80 : inG (.methodLink RX5 80 yX5_fillLeft) := ⟨ch6_0 _ (List.mem_of_getElem? (i := 7) rfl), rfl⟩
theorem lX5_93 : inG (.methodLink RX5 93 yX5_canGo) := ⟨ch6_0 _ (List.mem_of_getElem? (i := 12) rfl), rfl⟩
theorem lX5_97 : inG (.methodLink RX5 97 yX5_costWith) := ⟨ch6_0 _ (List.mem_of_getElem? (i := 15) rfl), rfl⟩
theorem lX5_112 : inG (.methodLink RX5 112 yJ9_max_7cf53) := ⟨ch6_1 _ (List.mem_of_getElem? (i := 3) rfl), rfl⟩
theorem lX5_101 : inG (.methodLink RX5 101 yJ9_min_7cf53) := ⟨ch6_1 _ (List.mem_of_getElem? (i := 4) rfl), rfl⟩
theorem lX5_84 : inG (.methodLink RX5 84 yX5_goesTo) := ⟨ch6_1 _ (List.mem_of_getElem? (i := 5) rfl), rfl⟩
theorem lX5_115 : inG (.methodLink RX5 115 yX5_firstOf) := ⟨ch6_1 _ (List.mem_of_getElem? (i := 9) rfl), rfl⟩
theorem lL_191 : inG (.methodLink RL 191 yL_whose) := ⟨ch6_1 _ (List.mem_of_getElem? (i := 13) rfl), rfl⟩
theorem lL_67 : inG (.methodLink RL 67 yX9_whose) := ⟨ch6_2 _ (List.mem_of_getElem? (i := 0) rfl), rfl⟩
theorem lX9_285 : inG (.methodLink RX9 285 yX5_cameTo) := ⟨ch6_2 _ (List.mem_of_getElem? (i := 4) rfl), rfl⟩
theorem lL_194 : inG (.methodLink RL 194 yL_note) := ⟨ch6_2 _ (List.mem_of_getElem? (i := 5) rfl), rfl⟩
theorem lL_70 : inG (.methodLink RL 70 yX9_note) := ⟨ch6_2 _ (List.mem_of_getElem? (i := 8) rfl), rfl⟩
theorem lX9_288 : inG (.methodLink RX9 288 yX2_isFull) := ⟨ch6_2 _ (List.mem_of_getElem? (i := 12) rfl), rfl⟩
theorem lX9_291 : inG (.methodLink RX9 291 yX2_put) := ⟨ch6_3 _ (List.mem_of_getElem? (i := 0) rfl), rfl⟩
theorem lX2_25 : inG (.methodLink RX2 25 yX2_isFull) := ⟨ch6_3 _ (List.mem_of_getElem? (i := 4) rfl), rfl⟩
theorem lL_202 : inG (.methodLink RL 202 yL_vain) := ⟨ch6_3 _ (List.mem_of_getElem? (i := 5) rfl), rfl⟩
theorem lL_74 : inG (.methodLink RL 74 yX9_vain) := ⟨ch6_3 _ (List.mem_of_getElem? (i := 8) rfl), rfl⟩
theorem lX9_298 : inG (.methodLink RX9 298 yX2_hold) := ⟨ch6_3 _ (List.mem_of_getElem? (i := 12) rfl), rfl⟩
theorem lX2_35 : inG (.methodLink RX2 35 yX2_lastDay) := ⟨ch6_4 _ (List.mem_of_getElem? (i := 0) rfl), rfl⟩
theorem lX2_49 : inG (.methodLink RX2 49 yJ9_max_7cf53) := ⟨ch6_4 _ (List.mem_of_getElem? (i := 4) rfl), rfl⟩
theorem lX2_39 : inG (.methodLink RX2 39 yX6_passDay) := ⟨ch6_4 _ (List.mem_of_getElem? (i := 5) rfl), rfl⟩
theorem lX2_45 : inG (.methodLink RX2 45 yX2_holdBehind) := ⟨ch6_4 _ (List.mem_of_getElem? (i := 6) rfl), rfl⟩
theorem lX9_302 : inG (.methodLink RX9 302 yX8_find) := ⟨ch6_4 _ (List.mem_of_getElem? (i := 10) rfl), rfl⟩
theorem lX8_22 : inG (.methodLink RX8 22 yX7_start) := ⟨ch6_4 _ (List.mem_of_getElem? (i := 14) rfl), rfl⟩
theorem lX8_32 : inG (.methodLink RX8 32 yX2_hold) := ⟨ch6_4 _ (List.mem_of_getElem? (i := 15) rfl), rfl⟩
theorem lX8_49 : inG (.methodLink RX8 49 yX6_wearsBits) := ⟨ch6_5 _ (List.mem_of_getElem? (i := 0) rfl), rfl⟩
theorem lX9_307 : inG (.methodLink RX9 307 yX8_first) := ⟨ch6_5 _ (List.mem_of_getElem? (i := 1) rfl), rfl⟩
theorem lL_205 : inG (.methodLink RL 205 yL_ask) := ⟨ch6_5 _ (List.mem_of_getElem? (i := 5) rfl), rfl⟩
theorem lL_77 : inG (.methodLink RL 77 yX9_ask) := ⟨ch6_5 _ (List.mem_of_getElem? (i := 8) rfl), rfl⟩
theorem lX9_310 : inG (.methodLink RX9 310 yX8_compare) := ⟨ch6_5 _ (List.mem_of_getElem? (i := 12) rfl), rfl⟩
theorem lX8_56 : inG (.methodLink RX8 56 yX7_passDays) := ⟨ch6_6 _ (List.mem_of_getElem? (i := 0) rfl), rfl⟩
theorem lX8_60 : inG (.methodLink RX8 60 yX8_keepOutcomes) := ⟨ch6_6 _ (List.mem_of_getElem? (i := 1) rfl), rfl⟩
theorem lX8_73 : inG (.methodLink RX8 73 yX8_unlikeOutcomes) := ⟨ch6_6 _ (List.mem_of_getElem? (i := 5) rfl), rfl⟩
theorem lX8_82 : inG (.methodLink RX8 82 yX8_isNewOutcome) := ⟨ch6_6 _ (List.mem_of_getElem? (i := 9) rfl), rfl⟩
theorem lL_208 : inG (.methodLink RL 208 yL_fog) := ⟨ch6_6 _ (List.mem_of_getElem? (i := 13) rfl), rfl⟩
theorem lL_80 : inG (.methodLink RL 80 yX9_fog) := ⟨ch6_7 _ (List.mem_of_getElem? (i := 0) rfl), rfl⟩
theorem lX9_319 : inG (.methodLink RX9 319 yX7_inFog) := ⟨ch6_7 _ (List.mem_of_getElem? (i := 4) rfl), rfl⟩
theorem lL_211 : inG (.methodLink RL 211 yL_game) := ⟨ch6_7 _ (List.mem_of_getElem? (i := 8) rfl), rfl⟩
theorem lL_83 : inG (.methodLink RL 83 yX9_game) := ⟨ch6_7 _ (List.mem_of_getElem? (i := 11) rfl), rfl⟩
theorem lX9_323 : inG (.methodLink RX9 323 yX7_play) := ⟨ch6_7 _ (List.mem_of_getElem? (i := 15) rfl), rfl⟩
theorem lX7_84 : inG (.methodLink RX7 84 yX6_putOffAll) := ⟨ch6_8 _ (List.mem_of_getElem? (i := 3) rfl), rfl⟩
theorem lX7_87 : inG (.methodLink RX7 87 yX7_gain) := ⟨ch6_8 _ (List.mem_of_getElem? (i := 4) rfl), rfl⟩
theorem lX7_91 : inG (.methodLink RX7 91 yX6_ownsBits) := ⟨ch6_8 _ (List.mem_of_getElem? (i := 8) rfl), rfl⟩
theorem lX7_94 : inG (.methodLink RX7 94 yJ6_bitCount_0f7a4) := ⟨ch6_8 _ (List.mem_of_getElem? (i := 9) rfl), rfl⟩
theorem lX9_327 : inG (.methodLink RX9 327 yX7_couplesAtRest) := ⟨ch6_8 _ (List.mem_of_getElem? (i := 10) rfl), rfl⟩
theorem lX7_99 : inG (.methodLink RX7 99 yX7_rests) := ⟨ch6_8 _ (List.mem_of_getElem? (i := 14) rfl), rfl⟩
theorem lX9_330 : inG (.methodLink RX9 330 yX7_firstCoupleAtRest) := ⟨ch6_9 _ (List.mem_of_getElem? (i := 2) rfl), rfl⟩
theorem lL_214 : inG (.methodLink RL 214 yL_years) := ⟨ch6_9 _ (List.mem_of_getElem? (i := 6) rfl), rfl⟩
theorem lL_86 : inG (.methodLink RL 86 yX9_years) := ⟨ch6_9 _ (List.mem_of_getElem? (i := 9) rfl), rfl⟩
theorem lX9_333 : inG (.methodLink RX9 333 yX7_drawYears) := ⟨ch6_9 _ (List.mem_of_getElem? (i := 13) rfl), rfl⟩
theorem lX7_106 : inG (.methodLink RX7 106 yX7_draw) := ⟨ch6_10 _ (List.mem_of_getElem? (i := 1) rfl), rfl⟩
theorem lX7_112 : inG (.methodLink RX7 112 yX7_happen) := ⟨ch6_10 _ (List.mem_of_getElem? (i := 6) rfl), rfl⟩
theorem lX9_337 : inG (.methodLink RX9 337 yJ6_bitCount_0f7a4) := ⟨ch6_10 _ (List.mem_of_getElem? (i := 10) rfl), rfl⟩
theorem lL_217 : inG (.methodLink RL 217 yL_meet) := ⟨ch6_10 _ (List.mem_of_getElem? (i := 11) rfl), rfl⟩
theorem lL_89 : inG (.methodLink RL 89 yX9_meet) := ⟨ch6_10 _ (List.mem_of_getElem? (i := 14) rfl), rfl⟩
theorem lX9_342 : inG (.methodLink RX9 342 yX6_firstTogether) := ⟨ch6_11 _ (List.mem_of_getElem? (i := 2) rfl), rfl⟩
theorem lL_220 : inG (.methodLink RL 220 yL_faced) := ⟨ch6_11 _ (List.mem_of_getElem? (i := 6) rfl), rfl⟩
theorem lL_92 : inG (.methodLink RL 92 yX9_faced) := ⟨ch6_11 _ (List.mem_of_getElem? (i := 9) rfl), rfl⟩
theorem lL_223 : inG (.methodLink RL 223 yL_walks) := ⟨ch6_11 _ (List.mem_of_getElem? (i := 13) rfl), rfl⟩
theorem lL_95 : inG (.methodLink RL 95 yX9_walks) := ⟨ch6_12 _ (List.mem_of_getElem? (i := 0) rfl), rfl⟩
theorem lX9_345 : inG (.methodLink RX9 345 yX5_busiest) := ⟨ch6_12 _ (List.mem_of_getElem? (i := 4) rfl), rfl⟩
theorem lX5_73 : inG (.methodLink RX5 73 yX5_visits) := ⟨ch6_12 _ (List.mem_of_getElem? (i := 8) rfl), rfl⟩
theorem lX9_348 : inG (.methodLink RX9 348 yX6_unseen) := ⟨ch6_12 _ (List.mem_of_getElem? (i := 11) rfl), rfl⟩
theorem lX6_168 : inG (.methodLink RX6 168 yX6_isSeen) := ⟨ch6_12 _ (List.mem_of_getElem? (i := 15) rfl), rfl⟩
theorem lL_226 : inG (.methodLink RL 226 yL_shamed) := ⟨ch6_13 _ (List.mem_of_getElem? (i := 3) rfl), rfl⟩
theorem lL_98 : inG (.methodLink RL 98 yX9_shamed) := ⟨ch6_13 _ (List.mem_of_getElem? (i := 6) rfl), rfl⟩
theorem lX9_351 : inG (.methodLink RX9 351 yX7_daysToShame) := ⟨ch6_13 _ (List.mem_of_getElem? (i := 10) rfl), rfl⟩
theorem lL_229 : inG (.methodLink RL 229 yL_has) := ⟨ch6_13 _ (List.mem_of_getElem? (i := 14) rfl), rfl⟩
theorem lL_101 : inG (.methodLink RL 101 yX9_has) := ⟨ch6_14 _ (List.mem_of_getElem? (i := 1) rfl), rfl⟩
theorem lX9_354 : inG (.methodLink RX9 354 yX6_ownsBits) := ⟨ch6_14 _ (List.mem_of_getElem? (i := 5) rfl), rfl⟩
theorem lL_232 : inG (.methodLink RL 232 yL_takes) := ⟨ch6_14 _ (List.mem_of_getElem? (i := 6) rfl), rfl⟩
theorem lL_104 : inG (.methodLink RL 104 yX9_takes) := ⟨ch6_14 _ (List.mem_of_getElem? (i := 9) rfl), rfl⟩
theorem lL_235 : inG (.methodLink RL 235 yL_quiet) := ⟨ch6_14 _ (List.mem_of_getElem? (i := 13) rfl), rfl⟩
theorem lL_107 : inG (.methodLink RL 107 yX9_quiet) := ⟨ch7_0 _ (List.mem_of_getElem? (i := 0) rfl), rfl⟩
theorem lX9_357 : inG (.methodLink RX9 357 yX7_neverWorn) := ⟨ch7_0 _ (List.mem_of_getElem? (i := 4) rfl), rfl⟩
theorem lX7_80 : inG (.methodLink RX7 80 yX6_wornBits) := ⟨ch7_0 _ (List.mem_of_getElem? (i := 8) rfl), rfl⟩
theorem lL_113 : inG (.methodLink RL 113 yX10_init) := ⟨ch7_0 _ (List.mem_of_getElem? (i := 11) rfl), rfl⟩
theorem lL_125 : inG (.methodLink RL 125 yX10_thrown) := ⟨ch7_12 _ (List.mem_of_getElem? (i := 11) rfl), rfl⟩
theorem lL_118 : inG (.methodLink RL 118 yX10_feed) := ⟨ch7_12 _ (List.mem_of_getElem? (i := 15) rfl), rfl⟩
theorem lX10_108 : inG (.methodLink RX10 108 yX10_lays) := ⟨ch7_13 _ (List.mem_of_getElem? (i := 3) rfl), rfl⟩
theorem lL_124 : inG (.methodLink RL 124 yX10_city) := ⟨ch7_13 _ (List.mem_of_getElem? (i := 7) rfl), rfl⟩
theorem lX10_266 : inG (.methodLink RX10 266 yX10_right) := ⟨ch7_13 _ (List.mem_of_getElem? (i := 11) rfl), rfl⟩
theorem lX10_165 : inG (.methodLink RX10 165 yX10_goes) := ⟨ch7_13 _ (List.mem_of_getElem? (i := 15) rfl), rfl⟩
theorem lX10_118 : inG (.methodLink RX10 118 yX10_byteAt) := ⟨ch7_14 _ (List.mem_of_getElem? (i := 3) rfl), rfl⟩
theorem lX10_138 : inG (.methodLink RX10 138 yX10_isLetter) := ⟨ch7_14 _ (List.mem_of_getElem? (i := 7) rfl), rfl⟩
theorem lX10_142 : inG (.methodLink RX10 142 yX10_isDigit) := ⟨ch7_14 _ (List.mem_of_getElem? (i := 10) rfl), rfl⟩
theorem lX10_161 : inG (.methodLink RX10 161 yX10_isGood) := ⟨ch7_14 _ (List.mem_of_getElem? (i := 13) rfl), rfl⟩
theorem lX10_270 : inG (.methodLink RX10 270 yX10_line) := ⟨ch8_0 _ (List.mem_of_getElem? (i := 1) rfl), rfl⟩
theorem lX10_186 : inG (.methodLink RX10 186 yX10_knownWord) := ⟨ch8_0 _ (List.mem_of_getElem? (i := 5) rfl), rfl⟩
theorem lX10_154 : inG (.methodLink RX10 154 yX10_letters) := ⟨ch8_0 _ (List.mem_of_getElem? (i := 9) rfl), rfl⟩
theorem lX10_150 : inG (.methodLink RX10 150 yX10_spelled) := ⟨ch8_0 _ (List.mem_of_getElem? (i := 12) rfl), rfl⟩
theorem lX10_240 : inG (.methodLink RX10 240 yX10_begins) := ⟨ch8_1 _ (List.mem_of_getElem? (i := 0) rfl), rfl⟩
theorem lX10_168 : inG (.methodLink RX10 168 yX10_wrong) := ⟨ch8_1 _ (List.mem_of_getElem? (i := 4) rfl), rfl⟩
theorem lX10_227 : inG (.methodLink RX10 227 yX10_number) := ⟨ch8_1 _ (List.mem_of_getElem? (i := 8) rfl), rfl⟩
theorem lX10_244 : inG (.methodLink RX10 244 yX10_readsPerson) := ⟨ch8_1 _ (List.mem_of_getElem? (i := 12) rfl), rfl⟩
theorem lX10_234 : inG (.methodLink RX10 234 yX10_isOneOf) := ⟨ch8_2 _ (List.mem_of_getElem? (i := 0) rfl), rfl⟩
theorem lX10_247 : inG (.methodLink RX10 247 yX10_readsThing) := ⟨ch8_2 _ (List.mem_of_getElem? (i := 4) rfl), rfl⟩
theorem lX10_256 : inG (.methodLink RX10 256 yX10_expression) := ⟨ch8_2 _ (List.mem_of_getElem? (i := 8) rfl), rfl⟩
theorem lX10_205 : inG (.methodLink RX10 205 yX10_deeper) := ⟨ch8_2 _ (List.mem_of_getElem? (i := 12) rfl), rfl⟩
theorem lX10_199 : inG (.methodLink RX10 199 yX10_isSign) := ⟨ch8_3 _ (List.mem_of_getElem? (i := 0) rfl), rfl⟩
theorem lX10_214 : inG (.methodLink RX10 214 yX10_operand) := ⟨ch8_3 _ (List.mem_of_getElem? (i := 4) rfl), rfl⟩
theorem lX10_202 : inG (.methodLink RX10 202 yX10_waitsFor) := ⟨ch8_3 _ (List.mem_of_getElem? (i := 8) rfl), rfl⟩
theorem lX10_208 : inG (.methodLink RX10 208 yX10_part) := ⟨ch8_3 _ (List.mem_of_getElem? (i := 12) rfl), rfl⟩
theorem lX10_183 : inG (.methodLink RX10 183 yX10_puts) := ⟨ch8_4 _ (List.mem_of_getElem? (i := 0) rfl), rfl⟩
theorem lX10_211 : inG (.methodLink RX10 211 yX10_drops) := ⟨ch8_4 _ (List.mem_of_getElem? (i := 4) rfl), rfl⟩
theorem lX10_177 : inG (.methodLink RX10 177 yX10_isOpen) := ⟨ch8_4 _ (List.mem_of_getElem? (i := 8) rfl), rfl⟩
theorem lX10_180 : inG (.methodLink RX10 180 yX10_strength) := ⟨ch8_4 _ (List.mem_of_getElem? (i := 11) rfl), rfl⟩
theorem lX10_218 : inG (.methodLink RX10 218 yX10_isOpened) := ⟨ch8_4 _ (List.mem_of_getElem? (i := 14) rfl), rfl⟩
theorem lX10_221 : inG (.methodLink RX10 221 yX10_closes) := ⟨ch8_5 _ (List.mem_of_getElem? (i := 2) rfl), rfl⟩
theorem lX10_263 : inG (.methodLink RX10 263 yX10_need) := ⟨ch8_5 _ (List.mem_of_getElem? (i := 6) rfl), rfl⟩
theorem lX10_279 : inG (.methodLink RX10 279 yX10_copies) := ⟨ch8_5 _ (List.mem_of_getElem? (i := 10) rfl), rfl⟩
theorem lL_132 : inG (.methodLink RL 132 yX10_fault) := ⟨ch8_5 _ (List.mem_of_getElem? (i := 14) rfl), rfl⟩
theorem lL_163 : inG (.methodLink RL 163 yX10_undo) := ⟨ch8_6 _ (List.mem_of_getElem? (i := 2) rfl), rfl⟩
theorem lL_135 : inG (.methodLink RL 135 yX10_count) := ⟨ch8_6 _ (List.mem_of_getElem? (i := 6) rfl), rfl⟩
theorem lX10_349 : inG (.methodLink RX10 349 yX10_within) := ⟨ch8_6 _ (List.mem_of_getElem? (i := 10) rfl), rfl⟩
theorem lX10_353 : inG (.methodLink RX10 353 yX10_wornOnes) := ⟨ch8_6 _ (List.mem_of_getElem? (i := 13) rfl), rfl⟩
theorem lX10_300 : inG (.methodLink RX10 300 yX10_wornBy) := ⟨ch8_7 _ (List.mem_of_getElem? (i := 1) rfl), rfl⟩
theorem lX10_356 : inG (.methodLink RX10 356 yX10_ringsNow) := ⟨ch8_7 _ (List.mem_of_getElem? (i := 5) rfl), rfl⟩
theorem lX10_346 : inG (.methodLink RX10 346 yX10_comesTo) := ⟨ch8_7 _ (List.mem_of_getElem? (i := 9) rfl), rfl⟩
theorem lX10_359 : inG (.methodLink RX10 359 yX10_shameAll) := ⟨ch8_7 _ (List.mem_of_getElem? (i := 13) rfl), rfl⟩
theorem lL_139 : inG (.methodLink RL 139 yX10_person) := ⟨ch8_8 _ (List.mem_of_getElem? (i := 1) rfl), rfl⟩
theorem lX10_362 : inG (.methodLink RX10 362 yX10_isPerson) := ⟨ch8_8 _ (List.mem_of_getElem? (i := 5) rfl), rfl⟩
theorem lX10_365 : inG (.methodLink RX10 365 yX10_isWhat) := ⟨ch8_8 _ (List.mem_of_getElem? (i := 9) rfl), rfl⟩
theorem lX10_297 : inG (.methodLink RX10 297 yX10_placeOn) := ⟨ch8_8 _ (List.mem_of_getElem? (i := 13) rfl), rfl⟩
theorem lX10_368 : inG (.methodLink RX10 368 yX10_heavy) := ⟨ch8_9 _ (List.mem_of_getElem? (i := 1) rfl), rfl⟩
theorem lX10_371 : inG (.methodLink RX10 371 yX10_ownedBy) := ⟨ch8_9 _ (List.mem_of_getElem? (i := 5) rfl), rfl⟩
theorem lX10_374 : inG (.methodLink RX10 374 yX10_oddest) := ⟨ch8_9 _ (List.mem_of_getElem? (i := 9) rfl), rfl⟩
theorem lL_142 : inG (.methodLink RL 142 yX10_thing) := ⟨ch8_9 _ (List.mem_of_getElem? (i := 13) rfl), rfl⟩
theorem lX10_377 : inG (.methodLink RX10 377 yX10_isThing) := ⟨ch8_10 _ (List.mem_of_getElem? (i := 1) rfl), rfl⟩
theorem lX10_321 : inG (.methodLink RX10 321 yX10_shameOf) := ⟨ch8_10 _ (List.mem_of_getElem? (i := 5) rfl), rfl⟩
theorem lX10_309 : inG (.methodLink RX10 309 yX10_eyesOn) := ⟨ch8_10 _ (List.mem_of_getElem? (i := 9) rfl), rfl⟩
theorem lX10_306 : inG (.methodLink RX10 306 yX10_looksAt) := ⟨ch8_10 _ (List.mem_of_getElem? (i := 13) rfl), rfl⟩
theorem lX10_312 : inG (.methodLink RX10 312 yX10_bits) := ⟨ch8_11 _ (List.mem_of_getElem? (i := 1) rfl), rfl⟩
theorem lX10_315 : inG (.methodLink RX10 315 yX10_bounded) := ⟨ch8_11 _ (List.mem_of_getElem? (i := 4) rfl), rfl⟩
theorem lX10_318 : inG (.methodLink RX10 318 yX10_reckons) := ⟨ch8_11 _ (List.mem_of_getElem? (i := 7) rfl), rfl⟩
theorem lX10_293 : inG (.methodLink RX10 293 yX10_works) := ⟨ch8_11 _ (List.mem_of_getElem? (i := 11) rfl), rfl⟩
theorem lL_146 : inG (.methodLink RL 146 yX10_days) := ⟨ch8_11 _ (List.mem_of_getElem? (i := 14) rfl), rfl⟩
theorem lX10_380 : inG (.methodLink RX10 380 yX10_refuses) := ⟨ch8_12 _ (List.mem_of_getElem? (i := 2) rfl), rfl⟩
theorem lX10_383 : inG (.methodLink RX10 383 yX10_keeps) := ⟨ch8_12 _ (List.mem_of_getElem? (i := 6) rfl), rfl⟩
theorem lX10_343 : inG (.methodLink RX10 343 yX10_dayGoes) := ⟨ch8_12 _ (List.mem_of_getElem? (i := 10) rfl), rfl⟩
theorem lX10_333 : inG (.methodLink RX10 333 yX10_thingGoes) := ⟨ch8_12 _ (List.mem_of_getElem? (i := 14) rfl), rfl⟩
theorem lX10_324 : inG (.methodLink RX10 324 yX10_lesser) := ⟨ch8_13 _ (List.mem_of_getElem? (i := 2) rfl), rfl⟩
theorem lX10_327 : inG (.methodLink RX10 327 yX10_isOff) := ⟨ch8_13 _ (List.mem_of_getElem? (i := 5) rfl), rfl⟩
theorem lX10_336 : inG (.methodLink RX10 336 yX10_returns0) := ⟨ch8_13 _ (List.mem_of_getElem? (i := 9) rfl), rfl⟩
theorem lX10_340 : inG (.methodLink RX10 340 yX10_givesAll) := ⟨ch8_13 _ (List.mem_of_getElem? (i := 13) rfl), rfl⟩
theorem lL_149 : inG (.methodLink RL 149 yX10_steal) := ⟨ch8_14 _ (List.mem_of_getElem? (i := 1) rfl), rfl⟩
theorem lX10_386 : inG (.methodLink RX10 386 yX10_maySteal) := ⟨ch8_14 _ (List.mem_of_getElem? (i := 5) rfl), rfl⟩
theorem lX10_389 : inG (.methodLink RX10 389 yX10_steals) := ⟨ch8_14 _ (List.mem_of_getElem? (i := 9) rfl), rfl⟩
theorem lL_152 : inG (.methodLink RL 152 yX10_back) := ⟨ch8_14 _ (List.mem_of_getElem? (i := 13) rfl), rfl⟩
theorem lL_156 : inG (.methodLink RL 156 yX10_walk) := ⟨ch9_0 _ (List.mem_of_getElem? (i := 1) rfl), rfl⟩
theorem lL_159 : inG (.methodLink RL 159 yX10_dye) := ⟨ch9_0 _ (List.mem_of_getElem? (i := 5) rfl), rfl⟩
theorem lL_166 : inG (.methodLink RL 166 yX10_then) := ⟨ch9_0 _ (List.mem_of_getElem? (i := 9) rfl), rfl⟩
theorem lX10_399 : inG (.methodLink RX10 399 yX10_isSoon) := ⟨ch9_0 _ (List.mem_of_getElem? (i := 13) rfl), rfl⟩
theorem lX10_402 : inG (.methodLink RX10 402 yX10_goesTo) := ⟨ch9_1 _ (List.mem_of_getElem? (i := 1) rfl), rfl⟩
theorem lX10_393 : inG (.methodLink RX10 393 yX10_tries) := ⟨ch9_1 _ (List.mem_of_getElem? (i := 5) rfl), rfl⟩
theorem lX10_396 : inG (.methodLink RX10 396 yX10_daysGo) := ⟨ch9_1 _ (List.mem_of_getElem? (i := 9) rfl), rfl⟩
theorem lL_169 : inG (.methodLink RL 169 yX10_later) := ⟨ch9_1 _ (List.mem_of_getElem? (i := 13) rfl), rfl⟩
theorem lL_172 : inG (.methodLink RL 172 yX10_when) := ⟨ch9_2 _ (List.mem_of_getElem? (i := 1) rfl), rfl⟩
theorem lX10_406 : inG (.methodLink RX10 406 yX10_ownIn) := ⟨ch9_2 _ (List.mem_of_getElem? (i := 5) rfl), rfl⟩
theorem lX10_410 : inG (.methodLink RX10 410 yX10_orNone) := ⟨ch9_2 _ (List.mem_of_getElem? (i := 10) rfl), rfl⟩
theorem lL_175 : inG (.methodLink RL 175 yX10_all) := ⟨ch9_2 _ (List.mem_of_getElem? (i := 13) rfl), rfl⟩
theorem lL_178 : inG (.methodLink RL 178 yX10_where) := ⟨ch9_3 _ (List.mem_of_getElem? (i := 1) rfl), rfl⟩
theorem lL_228 : inG (.methodLink RL 228 yX10_shamed) := ⟨ch9_3 _ (List.mem_of_getElem? (i := 5) rfl), rfl⟩
theorem lL_231 : inG (.methodLink RL 231 yX10_has) := ⟨ch9_3 _ (List.mem_of_getElem? (i := 9) rfl), rfl⟩
theorem lL_234 : inG (.methodLink RL 234 yX10_takes) := ⟨ch9_3 _ (List.mem_of_getElem? (i := 13) rfl), rfl⟩
theorem lL_237 : inG (.methodLink RL 237 yX10_quiet) := ⟨ch9_4 _ (List.mem_of_getElem? (i := 1) rfl), rfl⟩
theorem lL_181 : inG (.methodLink RL 181 yX10_toStand) := ⟨ch9_4 _ (List.mem_of_getElem? (i := 5) rfl), rfl⟩
theorem lL_184 : inG (.methodLink RL 184 yX10_toSteal) := ⟨ch9_4 _ (List.mem_of_getElem? (i := 9) rfl), rfl⟩
theorem lL_187 : inG (.methodLink RL 187 yX10_watch) := ⟨ch9_4 _ (List.mem_of_getElem? (i := 13) rfl), rfl⟩
theorem lX10_413 : inG (.methodLink RX10 413 yX10_isSeenAt) := ⟨ch9_5 _ (List.mem_of_getElem? (i := 1) rfl), rfl⟩
theorem lL_190 : inG (.methodLink RL 190 yX10_least) := ⟨ch9_5 _ (List.mem_of_getElem? (i := 5) rfl), rfl⟩
theorem lX10_416 : inG (.methodLink RX10 416 yX10_canGo) := ⟨ch9_5 _ (List.mem_of_getElem? (i := 9) rfl), rfl⟩
theorem lX10_419 : inG (.methodLink RX10 419 yX10_goesAt) := ⟨ch9_5 _ (List.mem_of_getElem? (i := 13) rfl), rfl⟩
theorem lL_193 : inG (.methodLink RL 193 yX10_whose) := ⟨ch9_6 _ (List.mem_of_getElem? (i := 1) rfl), rfl⟩
theorem lL_219 : inG (.methodLink RL 219 yX10_meet) := ⟨ch9_6 _ (List.mem_of_getElem? (i := 5) rfl), rfl⟩
theorem lL_222 : inG (.methodLink RL 222 yX10_faced) := ⟨ch9_6 _ (List.mem_of_getElem? (i := 9) rfl), rfl⟩
theorem lL_225 : inG (.methodLink RL 225 yX10_walks) := ⟨ch9_6 _ (List.mem_of_getElem? (i := 13) rfl), rfl⟩
theorem lL_197 : inG (.methodLink RL 197 yX10_note) := ⟨ch9_7 _ (List.mem_of_getElem? (i := 1) rfl), rfl⟩
theorem lL_201 : inG (.methodLink RL 201 yX10_forget) := ⟨ch9_7 _ (List.mem_of_getElem? (i := 5) rfl), rfl⟩
theorem lL_204 : inG (.methodLink RL 204 yX10_vain) := ⟨ch9_7 _ (List.mem_of_getElem? (i := 9) rfl), rfl⟩
theorem lX10_422 : inG (.methodLink RX10 422 yX10_isNoted) := ⟨ch9_7 _ (List.mem_of_getElem? (i := 13) rfl), rfl⟩
theorem lX10_425 : inG (.methodLink RX10 425 yX10_isGuess) := ⟨ch9_8 _ (List.mem_of_getElem? (i := 1) rfl), rfl⟩
theorem lL_207 : inG (.methodLink RL 207 yX10_ask) := ⟨ch9_8 _ (List.mem_of_getElem? (i := 5) rfl), rfl⟩
theorem lX10_428 : inG (.methodLink RX10 428 yX10_areLike) := ⟨ch9_8 _ (List.mem_of_getElem? (i := 9) rfl), rfl⟩
theorem lL_210 : inG (.methodLink RL 210 yX10_fog) := ⟨ch9_8 _ (List.mem_of_getElem? (i := 13) rfl), rfl⟩
theorem lL_213 : inG (.methodLink RL 213 yX10_game) := ⟨ch9_9 _ (List.mem_of_getElem? (i := 1) rfl), rfl⟩
theorem lX10_431 : inG (.methodLink RX10 431 yX10_gains) := ⟨ch9_9 _ (List.mem_of_getElem? (i := 5) rfl), rfl⟩
theorem lL_216 : inG (.methodLink RL 216 yX10_years) := ⟨ch9_9 _ (List.mem_of_getElem? (i := 9) rfl), rfl⟩
theorem lX10_442 : inG (.methodLink RX10 442 yX10_happens) := ⟨ch9_9 _ (List.mem_of_getElem? (i := 13) rfl), rfl⟩
theorem lX10_439 : inG (.methodLink RX10 439 yX10_draw) := ⟨ch9_10 _ (List.mem_of_getElem? (i := 1) rfl), rfl⟩
theorem lL_241 : inG (.methodLink RL 241 yX10_image) := ⟨ch9_10 _ (List.mem_of_getElem? (i := 6) rfl), rfl⟩
theorem lL_246 : inG (.methodLink RL 246 yX10_restore) := ⟨ch9_10 _ (List.mem_of_getElem? (i := 10) rfl), rfl⟩
theorem kJ6_265 : inG (.constant RJ6 265 (1431655765)) := ⟨ch3_2 _ (List.mem_of_getElem? (i := 9) rfl), rfl⟩
theorem kJ6_266 : inG (.constant RJ6 266 (858993459)) := ⟨ch3_2 _ (List.mem_of_getElem? (i := 10) rfl), rfl⟩
theorem kJ6_267 : inG (.constant RJ6 267 (252645135)) := ⟨ch3_2 _ (List.mem_of_getElem? (i := 11) rfl), rfl⟩
theorem kJ2_227 : inG (.constant RJ2 227 (65536)) := ⟨ch4_0 _ (List.mem_of_getElem? (i := 1) rfl), rfl⟩
theorem kJ11_110 : inG (.constant RJ11 110 (55232)) := ⟨ch4_2 _ (List.mem_of_getElem? (i := 8) rfl), rfl⟩
theorem kJ11_76 : inG (.constant RJ11 76 (56320)) := ⟨ch4_2 _ (List.mem_of_getElem? (i := 12) rfl), rfl⟩
theorem kX5_83 : inG (.constant RX5 83 (1000000)) := ⟨ch6_0 _ (List.mem_of_getElem? (i := 11) rfl), rfl⟩
theorem kX7_118 : inG (.constant RX7 118 (1103515245)) := ⟨ch6_10 _ (List.mem_of_getElem? (i := 5) rfl), rfl⟩
theorem kX10_405 : inG (.constant RX10 405 (99999)) := ⟨ch9_2 _ (List.mem_of_getElem? (i := 9) rfl), rfl⟩
theorem kX10_438 : inG (.constant RX10 438 (1103515245)) := ⟨ch9_10 _ (List.mem_of_getElem? (i := 5) rfl), rfl⟩
theorem iniX9 : inG (.initialized RX9) := ⟨ch1_0 _ (List.mem_of_getElem? (i := 1) rfl), rfl⟩
theorem iniX0 : inG (.initialized RX0) := ⟨ch1_0 _ (List.mem_of_getElem? (i := 7) rfl), rfl⟩
theorem iniX1 : inG (.initialized RX1) := ⟨ch1_0 _ (List.mem_of_getElem? (i := 3) rfl), rfl⟩
theorem iniX2 : inG (.initialized RX2) := ⟨ch1_0 _ (List.mem_of_getElem? (i := 8) rfl), rfl⟩
theorem iniX3 : inG (.initialized RX3) := ⟨ch1_0 _ (List.mem_of_getElem? (i := 2) rfl), rfl⟩
theorem iniX4 : inG (.initialized RX4) := ⟨ch1_0 _ (List.mem_of_getElem? (i := 4) rfl), rfl⟩
theorem iniX5 : inG (.initialized RX5) := ⟨ch1_0 _ (List.mem_of_getElem? (i := 11) rfl), rfl⟩
theorem iniX6 : inG (.initialized RX6) := ⟨ch1_0 _ (List.mem_of_getElem? (i := 6) rfl), rfl⟩
theorem iniX7 : inG (.initialized RX7) := ⟨ch1_0 _ (List.mem_of_getElem? (i := 9) rfl), rfl⟩
theorem iniX8 : inG (.initialized RX8) := ⟨ch1_0 _ (List.mem_of_getElem? (i := 10) rfl), rfl⟩
theorem iniL : inG (.initialized RL) := ⟨ch1_0 _ (List.mem_of_getElem? (i := 0) rfl), rfl⟩
theorem iniX10 : inG (.initialized RX10) := ⟨ch1_0 _ (List.mem_of_getElem? (i := 14) rfl), rfl⟩
theorem iniJ11 : inG (.initialized RJ11) := ⟨ch1_1 _ (List.mem_of_getElem? (i := 7) rfl), rfl⟩
theorem iniJ6 : inG (.initialized RJ6) := ⟨ch1_1 _ (List.mem_of_getElem? (i := 9) rfl), rfl⟩
theorem iniJ9 : inG (.initialized RJ9) := ⟨ch1_0 _ (List.mem_of_getElem? (i := 12) rfl), rfl⟩
theorem iniJ0 : inG (.initialized RJ0) := ⟨ch1_1 _ (List.mem_of_getElem? (i := 3) rfl), rfl⟩
theorem iniJ1 : inG (.initialized RJ1) := ⟨ch1_1 _ (List.mem_of_getElem? (i := 4) rfl), rfl⟩
theorem iniJ2 : inG (.initialized RJ2) := ⟨ch1_1 _ (List.mem_of_getElem? (i := 5) rfl), rfl⟩
theorem iniJ7 : inG (.initialized RJ7) := ⟨ch1_0 _ (List.mem_of_getElem? (i := 5) rfl), rfl⟩
theorem iniJ3 : inG (.initialized RJ3) := ⟨ch1_1 _ (List.mem_of_getElem? (i := 6) rfl), rfl⟩
theorem vX0_clear : CV mX0_clear 0 := ⟨⟨rfl, ⟨ch4_13 _ (List.mem_of_getElem? (i := 1) rfl), rfl⟩, iniX0, by decide, by decide +kernel, by decide⟩, ⟨ch4_12 _ (List.mem_of_getElem? (i := 15) rfl), rfl⟩, ⟨ch4_13 _ (List.mem_of_getElem? (i := 0) rfl), rfl⟩⟩
theorem vX0_copyFrom : CV mX0_copyFrom 1 := ⟨⟨rfl, ⟨ch3_6 _ (List.mem_of_getElem? (i := 6) rfl), rfl⟩, iniX0, by decide, by decide +kernel, by decide⟩, ⟨ch3_6 _ (List.mem_of_getElem? (i := 4) rfl), rfl⟩, ⟨ch3_6 _ (List.mem_of_getElem? (i := 5) rfl), rfl⟩⟩
theorem vX0_keep : CV mX0_keep 1 := ⟨⟨rfl, ⟨ch3_0 _ (List.mem_of_getElem? (i := 9) rfl), rfl⟩, iniX0, by decide, by decide +kernel, by decide⟩, ⟨ch3_0 _ (List.mem_of_getElem? (i := 7) rfl), rfl⟩, ⟨ch3_0 _ (List.mem_of_getElem? (i := 8) rfl), rfl⟩⟩
theorem vX0_takeBack : CV mX0_takeBack 1 := ⟨⟨rfl, ⟨ch3_5 _ (List.mem_of_getElem? (i := 1) rfl), rfl⟩, iniX0, by decide, by decide +kernel, by decide⟩, ⟨ch3_4 _ (List.mem_of_getElem? (i := 15) rfl), rfl⟩, ⟨ch3_5 _ (List.mem_of_getElem? (i := 0) rfl), rfl⟩⟩
theorem vX1_clear : CV mX1_clear 0 := ⟨⟨rfl, ⟨ch1_7 _ (List.mem_of_getElem? (i := 13) rfl), rfl⟩, iniX1, by decide, by decide +kernel, by decide⟩, ⟨ch1_7 _ (List.mem_of_getElem? (i := 11) rfl), rfl⟩, ⟨ch1_7 _ (List.mem_of_getElem? (i := 12) rfl), rfl⟩⟩
theorem vX1_putCode : CV mX1_putCode 1 := ⟨⟨rfl, ⟨ch4_9 _ (List.mem_of_getElem? (i := 9) rfl), rfl⟩, iniX1, by decide, by decide +kernel, by decide⟩, ⟨ch4_9 _ (List.mem_of_getElem? (i := 7) rfl), rfl⟩, ⟨ch4_9 _ (List.mem_of_getElem? (i := 8) rfl), rfl⟩⟩
theorem vX2_isFull : CV mX2_isFull 0 := ⟨⟨rfl, ⟨ch6_2 _ (List.mem_of_getElem? (i := 15) rfl), rfl⟩, iniX2, by decide, by decide +kernel, by decide⟩, ⟨ch6_2 _ (List.mem_of_getElem? (i := 13) rfl), rfl⟩, ⟨ch6_2 _ (List.mem_of_getElem? (i := 14) rfl), rfl⟩⟩
theorem vX2_clear : CV mX2_clear 0 := ⟨⟨rfl, ⟨ch3_5 _ (List.mem_of_getElem? (i := 13) rfl), rfl⟩, iniX2, by decide, by decide +kernel, by decide⟩, ⟨ch3_5 _ (List.mem_of_getElem? (i := 11) rfl), rfl⟩, ⟨ch3_5 _ (List.mem_of_getElem? (i := 12) rfl), rfl⟩⟩
theorem vX2_put : CV mX2_put 3 := ⟨⟨rfl, ⟨ch6_3 _ (List.mem_of_getElem? (i := 3) rfl), rfl⟩, iniX2, by decide, by decide +kernel, by decide⟩, ⟨ch6_3 _ (List.mem_of_getElem? (i := 1) rfl), rfl⟩, ⟨ch6_3 _ (List.mem_of_getElem? (i := 2) rfl), rfl⟩⟩
theorem vX2_copyFrom : CV mX2_copyFrom 1 := ⟨⟨rfl, ⟨ch3_6 _ (List.mem_of_getElem? (i := 11) rfl), rfl⟩, iniX2, by decide, by decide +kernel, by decide⟩, ⟨ch3_6 _ (List.mem_of_getElem? (i := 9) rfl), rfl⟩, ⟨ch3_6 _ (List.mem_of_getElem? (i := 10) rfl), rfl⟩⟩
theorem vX2_hold : CV mX2_hold 1 := ⟨⟨rfl, ⟨ch6_3 _ (List.mem_of_getElem? (i := 15) rfl), rfl⟩, iniX2, by decide, by decide +kernel, by decide⟩, ⟨ch6_3 _ (List.mem_of_getElem? (i := 13) rfl), rfl⟩, ⟨ch6_3 _ (List.mem_of_getElem? (i := 14) rfl), rfl⟩⟩
theorem vX2_lastDay : CV mX2_lastDay 0 := ⟨⟨rfl, ⟨ch6_4 _ (List.mem_of_getElem? (i := 3) rfl), rfl⟩, iniX2, by decide, by decide +kernel, by decide⟩, ⟨ch6_4 _ (List.mem_of_getElem? (i := 2) rfl), rfl⟩, ⟨cp3 _ (List.mem_of_getElem? (i := 15) rfl), rfl⟩⟩
theorem vX2_holdBehind : CV mX2_holdBehind 2 := ⟨⟨rfl, ⟨ch6_4 _ (List.mem_of_getElem? (i := 9) rfl), rfl⟩, iniX2, by decide, by decide +kernel, by decide⟩, ⟨ch6_4 _ (List.mem_of_getElem? (i := 8) rfl), rfl⟩, ⟨cp4 _ (List.mem_of_getElem? (i := 0) rfl), rfl⟩⟩
theorem vX3_begin : CV mX3_begin 3 := ⟨⟨rfl, ⟨ch3_11 _ (List.mem_of_getElem? (i := 11) rfl), rfl⟩, iniX3, by decide, by decide +kernel, by decide⟩, ⟨ch3_11 _ (List.mem_of_getElem? (i := 9) rfl), rfl⟩, ⟨ch3_11 _ (List.mem_of_getElem? (i := 10) rfl), rfl⟩⟩
theorem vX3_hasMore : CV mX3_hasMore 0 := ⟨⟨rfl, ⟨ch4_3 _ (List.mem_of_getElem? (i := 0) rfl), rfl⟩, iniX3, by decide, by decide +kernel, by decide⟩, ⟨ch4_2 _ (List.mem_of_getElem? (i := 14) rfl), rfl⟩, ⟨ch4_2 _ (List.mem_of_getElem? (i := 15) rfl), rfl⟩⟩
theorem vX3_fail : CV mX3_fail 1 := ⟨⟨rfl, ⟨ch4_5 _ (List.mem_of_getElem? (i := 6) rfl), rfl⟩, iniX3, by decide, by decide +kernel, by decide⟩, ⟨ch4_5 _ (List.mem_of_getElem? (i := 5) rfl), rfl⟩, ⟨cp1 _ (List.mem_of_getElem? (i := 14) rfl), rfl⟩⟩
theorem vX3_next : CV mX3_next 0 := ⟨⟨rfl, ⟨ch3_12 _ (List.mem_of_getElem? (i := 1) rfl), rfl⟩, iniX3, by decide, by decide +kernel, by decide⟩, ⟨ch3_12 _ (List.mem_of_getElem? (i := 0) rfl), rfl⟩, ⟨cp1 _ (List.mem_of_getElem? (i := 9) rfl), rfl⟩⟩
theorem vX3_nextWord : CV mX3_nextWord 0 := ⟨⟨rfl, ⟨ch3_12 _ (List.mem_of_getElem? (i := 5) rfl), rfl⟩, iniX3, by decide, by decide +kernel, by decide⟩, ⟨ch3_12 _ (List.mem_of_getElem? (i := 4) rfl), rfl⟩, ⟨cp1 _ (List.mem_of_getElem? (i := 10) rfl), rfl⟩⟩
theorem vX3_nextNumber : CV mX3_nextNumber 0 := ⟨⟨rfl, ⟨ch3_12 _ (List.mem_of_getElem? (i := 9) rfl), rfl⟩, iniX3, by decide, by decide +kernel, by decide⟩, ⟨ch3_12 _ (List.mem_of_getElem? (i := 8) rfl), rfl⟩, ⟨cp1 _ (List.mem_of_getElem? (i := 11) rfl), rfl⟩⟩
theorem vX3_isWord : CV mX3_isWord 1 := ⟨⟨rfl, ⟨ch4_3 _ (List.mem_of_getElem? (i := 9) rfl), rfl⟩, iniX3, by decide, by decide +kernel, by decide⟩, ⟨ch4_3 _ (List.mem_of_getElem? (i := 8) rfl), rfl⟩, ⟨cp1 _ (List.mem_of_getElem? (i := 12) rfl), rfl⟩⟩
theorem vX3_isSign : CV mX3_isSign 1 := ⟨⟨rfl, ⟨ch4_6 _ (List.mem_of_getElem? (i := 10) rfl), rfl⟩, iniX3, by decide, by decide +kernel, by decide⟩, ⟨ch4_6 _ (List.mem_of_getElem? (i := 9) rfl), rfl⟩, ⟨cp2 _ (List.mem_of_getElem? (i := 3) rfl), rfl⟩⟩
theorem vX3_line : CV mX3_line 0 := ⟨⟨rfl, ⟨ch4_3 _ (List.mem_of_getElem? (i := 4) rfl), rfl⟩, iniX3, by decide, by decide +kernel, by decide⟩, ⟨ch4_3 _ (List.mem_of_getElem? (i := 2) rfl), rfl⟩, ⟨ch4_3 _ (List.mem_of_getElem? (i := 3) rfl), rfl⟩⟩
theorem vX3_lineEnd : CV mX3_lineEnd 0 := ⟨⟨rfl, ⟨ch4_6 _ (List.mem_of_getElem? (i := 6) rfl), rfl⟩, iniX3, by decide, by decide +kernel, by decide⟩, ⟨ch4_6 _ (List.mem_of_getElem? (i := 5) rfl), rfl⟩, ⟨cp2 _ (List.mem_of_getElem? (i := 2) rfl), rfl⟩⟩
theorem vX3_nextIsNumber : CV mX3_nextIsNumber 0 := ⟨⟨rfl, ⟨ch4_5 _ (List.mem_of_getElem? (i := 14) rfl), rfl⟩, iniX3, by decide, by decide +kernel, by decide⟩, ⟨ch4_5 _ (List.mem_of_getElem? (i := 13) rfl), rfl⟩, ⟨cp2 _ (List.mem_of_getElem? (i := 0) rfl), rfl⟩⟩
theorem vX3_isFitNumber : CV mX3_isFitNumber 0 := ⟨⟨rfl, ⟨ch4_6 _ (List.mem_of_getElem? (i := 2) rfl), rfl⟩, iniX3, by decide, by decide +kernel, by decide⟩, ⟨ch4_6 _ (List.mem_of_getElem? (i := 1) rfl), rfl⟩, ⟨cp2 _ (List.mem_of_getElem? (i := 1) rfl), rfl⟩⟩
theorem vX3_nextIsWithin : CV mX3_nextIsWithin 2 := ⟨⟨rfl, ⟨ch4_5 _ (List.mem_of_getElem? (i := 10) rfl), rfl⟩, iniX3, by decide, by decide +kernel, by decide⟩, ⟨ch4_5 _ (List.mem_of_getElem? (i := 9) rfl), rfl⟩, ⟨cp1 _ (List.mem_of_getElem? (i := 15) rfl), rfl⟩⟩
theorem vX3_placesLine : CV mX3_placesLine 0 := ⟨⟨rfl, ⟨ch4_5 _ (List.mem_of_getElem? (i := 2) rfl), rfl⟩, iniX3, by decide, by decide +kernel, by decide⟩, ⟨ch4_5 _ (List.mem_of_getElem? (i := 1) rfl), rfl⟩, ⟨cp1 _ (List.mem_of_getElem? (i := 13) rfl), rfl⟩⟩
theorem vX3_termLine : CV mX3_termLine 0 := ⟨⟨rfl, ⟨ch4_8 _ (List.mem_of_getElem? (i := 3) rfl), rfl⟩, iniX3, by decide, by decide +kernel, by decide⟩, ⟨ch4_8 _ (List.mem_of_getElem? (i := 2) rfl), rfl⟩, ⟨cp2 _ (List.mem_of_getElem? (i := 8) rfl), rfl⟩⟩
theorem vX3_personLine : CV mX3_personLine 1 := ⟨⟨rfl, ⟨ch4_6 _ (List.mem_of_getElem? (i := 15) rfl), rfl⟩, iniX3, by decide, by decide +kernel, by decide⟩, ⟨ch4_6 _ (List.mem_of_getElem? (i := 14) rfl), rfl⟩, ⟨cp2 _ (List.mem_of_getElem? (i := 4) rfl), rfl⟩⟩
theorem vX3_isFitPlace : CV mX3_isFitPlace 1 := ⟨⟨rfl, ⟨ch4_7 _ (List.mem_of_getElem? (i := 3) rfl), rfl⟩, iniX3, by decide, by decide +kernel, by decide⟩, ⟨ch4_7 _ (List.mem_of_getElem? (i := 2) rfl), rfl⟩, ⟨cp2 _ (List.mem_of_getElem? (i := 5) rfl), rfl⟩⟩
theorem vX3_nextIsPerson : CV mX3_nextIsPerson 0 := ⟨⟨rfl, ⟨ch4_7 _ (List.mem_of_getElem? (i := 13) rfl), rfl⟩, iniX3, by decide, by decide +kernel, by decide⟩, ⟨ch4_7 _ (List.mem_of_getElem? (i := 12) rfl), rfl⟩, ⟨cp2 _ (List.mem_of_getElem? (i := 7) rfl), rfl⟩⟩
theorem vX3_thingLine : CV mX3_thingLine 0 := ⟨⟨rfl, ⟨ch4_7 _ (List.mem_of_getElem? (i := 9) rfl), rfl⟩, iniX3, by decide, by decide +kernel, by decide⟩, ⟨ch4_7 _ (List.mem_of_getElem? (i := 8) rfl), rfl⟩, ⟨cp2 _ (List.mem_of_getElem? (i := 6) rfl), rfl⟩⟩
theorem vX3_ruleLine : CV mX3_ruleLine 1 := ⟨⟨rfl, ⟨ch4_8 _ (List.mem_of_getElem? (i := 8) rfl), rfl⟩, iniX3, by decide, by decide +kernel, by decide⟩, ⟨ch4_8 _ (List.mem_of_getElem? (i := 7) rfl), rfl⟩, ⟨cp2 _ (List.mem_of_getElem? (i := 9) rfl), rfl⟩⟩
theorem vX3_beginRule : CV mX3_beginRule 0 := ⟨⟨rfl, ⟨ch4_8 _ (List.mem_of_getElem? (i := 13) rfl), rfl⟩, iniX3, by decide, by decide +kernel, by decide⟩, ⟨ch4_8 _ (List.mem_of_getElem? (i := 12) rfl), rfl⟩, ⟨cp2 _ (List.mem_of_getElem? (i := 10) rfl), rfl⟩⟩
theorem vX3_part : CV mX3_part 1 := ⟨⟨rfl, ⟨ch4_9 _ (List.mem_of_getElem? (i := 1) rfl), rfl⟩, iniX3, by decide, by decide +kernel, by decide⟩, ⟨ch4_9 _ (List.mem_of_getElem? (i := 0) rfl), rfl⟩, ⟨cp2 _ (List.mem_of_getElem? (i := 11) rfl), rfl⟩⟩
theorem vX3_wordOfPart : CV mX3_wordOfPart 1 := ⟨⟨rfl, ⟨ch4_9 _ (List.mem_of_getElem? (i := 13) rfl), rfl⟩, iniX3, by decide, by decide +kernel, by decide⟩, ⟨ch4_9 _ (List.mem_of_getElem? (i := 12) rfl), rfl⟩, ⟨cp2 _ (List.mem_of_getElem? (i := 13) rfl), rfl⟩⟩
theorem vX3_valueOfShames : CV mX3_valueOfShames 0 := ⟨⟨rfl, ⟨ch4_10 _ (List.mem_of_getElem? (i := 6) rfl), rfl⟩, iniX3, by decide, by decide +kernel, by decide⟩, ⟨ch4_10 _ (List.mem_of_getElem? (i := 5) rfl), rfl⟩, ⟨cp2 _ (List.mem_of_getElem? (i := 15) rfl), rfl⟩⟩
theorem vX3_valueOfReturns : CV mX3_valueOfReturns 0 := ⟨⟨rfl, ⟨ch4_11 _ (List.mem_of_getElem? (i := 1) rfl), rfl⟩, iniX3, by decide, by decide +kernel, by decide⟩, ⟨ch4_11 _ (List.mem_of_getElem? (i := 0) rfl), rfl⟩, ⟨cp3 _ (List.mem_of_getElem? (i := 0) rfl), rfl⟩⟩
theorem vX3_putPart : CV mX3_putPart 1 := ⟨⟨rfl, ⟨ch4_9 _ (List.mem_of_getElem? (i := 5) rfl), rfl⟩, iniX3, by decide, by decide +kernel, by decide⟩, ⟨ch4_9 _ (List.mem_of_getElem? (i := 4) rfl), rfl⟩, ⟨cp2 _ (List.mem_of_getElem? (i := 12) rfl), rfl⟩⟩
theorem vX3_behindPart : CV mX3_behindPart 0 := ⟨⟨rfl, ⟨ch4_11 _ (List.mem_of_getElem? (i := 7) rfl), rfl⟩, iniX3, by decide, by decide +kernel, by decide⟩, ⟨ch4_11 _ (List.mem_of_getElem? (i := 6) rfl), rfl⟩, ⟨cp3 _ (List.mem_of_getElem? (i := 1) rfl), rfl⟩⟩
theorem vX3_close : CV mX3_close 0 := ⟨⟨rfl, ⟨ch4_11 _ (List.mem_of_getElem? (i := 11) rfl), rfl⟩, iniX3, by decide, by decide +kernel, by decide⟩, ⟨ch4_11 _ (List.mem_of_getElem? (i := 10) rfl), rfl⟩, ⟨cp3 _ (List.mem_of_getElem? (i := 2) rfl), rfl⟩⟩
theorem vX3_operatorRead : CV mX3_operatorRead 0 := ⟨⟨rfl, ⟨ch4_12 _ (List.mem_of_getElem? (i := 10) rfl), rfl⟩, iniX3, by decide, by decide +kernel, by decide⟩, ⟨ch4_12 _ (List.mem_of_getElem? (i := 9) rfl), rfl⟩, ⟨cp3 _ (List.mem_of_getElem? (i := 5) rfl), rfl⟩⟩
theorem vX3_await : CV mX3_await 1 := ⟨⟨rfl, ⟨ch4_10 _ (List.mem_of_getElem? (i := 2) rfl), rfl⟩, iniX3, by decide, by decide +kernel, by decide⟩, ⟨ch4_10 _ (List.mem_of_getElem? (i := 1) rfl), rfl⟩, ⟨cp2 _ (List.mem_of_getElem? (i := 14) rfl), rfl⟩⟩
theorem vX3_bindingOnTop : CV mX3_bindingOnTop 0 := ⟨⟨rfl, ⟨ch4_12 _ (List.mem_of_getElem? (i := 4) rfl), rfl⟩, iniX3, by decide, by decide +kernel, by decide⟩, ⟨ch4_12 _ (List.mem_of_getElem? (i := 3) rfl), rfl⟩, ⟨cp3 _ (List.mem_of_getElem? (i := 4) rfl), rfl⟩⟩
theorem vX3_putTighter : CV mX3_putTighter 1 := ⟨⟨rfl, ⟨ch4_11 _ (List.mem_of_getElem? (i := 15) rfl), rfl⟩, iniX3, by decide, by decide +kernel, by decide⟩, ⟨ch4_11 _ (List.mem_of_getElem? (i := 14) rfl), rfl⟩, ⟨cp3 _ (List.mem_of_getElem? (i := 3) rfl), rfl⟩⟩
theorem vX4_isTold : CV mX4_isTold 0 := ⟨⟨rfl, ⟨ch3_2 _ (List.mem_of_getElem? (i := 15) rfl), rfl⟩, iniX4, by decide, by decide +kernel, by decide⟩, ⟨ch3_2 _ (List.mem_of_getElem? (i := 13) rfl), rfl⟩, ⟨ch3_2 _ (List.mem_of_getElem? (i := 14) rfl), rfl⟩⟩
theorem vX4_result : CV mX4_result 3 := ⟨⟨rfl, ⟨ch3_3 _ (List.mem_of_getElem? (i := 3) rfl), rfl⟩, iniX4, by decide, by decide +kernel, by decide⟩, ⟨ch3_3 _ (List.mem_of_getElem? (i := 1) rfl), rfl⟩, ⟨ch3_3 _ (List.mem_of_getElem? (i := 2) rfl), rfl⟩⟩
theorem sX4_two : CS mX4_two 3 := ⟨⟨rfl, ⟨ch3_3 _ (List.mem_of_getElem? (i := 6) rfl), rfl⟩, iniX4, by decide, by decide +kernel, by decide⟩, ⟨ch3_3 _ (List.mem_of_getElem? (i := 5) rfl), rfl⟩⟩
theorem vX5_rings : CV mX5_rings 1 := ⟨⟨rfl, ⟨ch5_0 _ (List.mem_of_getElem? (i := 3) rfl), rfl⟩, iniX5, by decide, by decide +kernel, by decide⟩, ⟨ch5_0 _ (List.mem_of_getElem? (i := 1) rfl), rfl⟩, ⟨ch5_0 _ (List.mem_of_getElem? (i := 2) rfl), rfl⟩⟩
theorem vX5_cameTo : CV mX5_cameTo 2 := ⟨⟨rfl, ⟨ch5_0 _ (List.mem_of_getElem? (i := 7) rfl), rfl⟩, iniX5, by decide, by decide +kernel, by decide⟩, ⟨ch5_0 _ (List.mem_of_getElem? (i := 5) rfl), rfl⟩, ⟨ch5_0 _ (List.mem_of_getElem? (i := 6) rfl), rfl⟩⟩
theorem sX5_ownersOf : CS mX5_ownersOf 2 := ⟨⟨rfl, ⟨ch5_0 _ (List.mem_of_getElem? (i := 14) rfl), rfl⟩, iniX5, by decide, by decide +kernel, by decide⟩, ⟨ch5_0 _ (List.mem_of_getElem? (i := 13) rfl), rfl⟩⟩
theorem vX5_fewestPlaces : CV mX5_fewestPlaces 2 := ⟨⟨rfl, ⟨ch5_13 _ (List.mem_of_getElem? (i := 14) rfl), rfl⟩, iniX5, by decide, by decide +kernel, by decide⟩, ⟨ch5_13 _ (List.mem_of_getElem? (i := 12) rfl), rfl⟩, ⟨ch5_13 _ (List.mem_of_getElem? (i := 13) rfl), rfl⟩⟩
theorem sX5_placesOf : CS mX5_placesOf 3 := ⟨⟨rfl, ⟨ch5_14 _ (List.mem_of_getElem? (i := 1) rfl), rfl⟩, iniX5, by decide, by decide +kernel, by decide⟩, ⟨ch5_14 _ (List.mem_of_getElem? (i := 0) rfl), rfl⟩⟩
theorem vX5_meetsAll : CV mX5_meetsAll 2 := ⟨⟨rfl, ⟨ch5_14 _ (List.mem_of_getElem? (i := 7) rfl), rfl⟩, iniX5, by decide, by decide +kernel, by decide⟩, ⟨ch5_14 _ (List.mem_of_getElem? (i := 6) rfl), rfl⟩, ⟨cp3 _ (List.mem_of_getElem? (i := 9) rfl), rfl⟩⟩
theorem vX5_busiest : CV mX5_busiest 2 := ⟨⟨rfl, ⟨ch6_12 _ (List.mem_of_getElem? (i := 7) rfl), rfl⟩, iniX5, by decide, by decide +kernel, by decide⟩, ⟨ch6_12 _ (List.mem_of_getElem? (i := 5) rfl), rfl⟩, ⟨ch6_12 _ (List.mem_of_getElem? (i := 6) rfl), rfl⟩⟩
theorem sX5_visits : CS mX5_visits 3 := ⟨⟨rfl, ⟨ch6_12 _ (List.mem_of_getElem? (i := 10) rfl), rfl⟩, iniX5, by decide, by decide +kernel, by decide⟩, ⟨ch6_12 _ (List.mem_of_getElem? (i := 9) rfl), rfl⟩⟩
theorem vX5_leastShame : CV mX5_leastShame 2 := ⟨⟨rfl, ⟨ch6_0 _ (List.mem_of_getElem? (i := 2) rfl), rfl⟩, iniX5, by decide, by decide +kernel, by decide⟩, ⟨ch6_0 _ (List.mem_of_getElem? (i := 0) rfl), rfl⟩, ⟨ch6_0 _ (List.mem_of_getElem? (i := 1) rfl), rfl⟩⟩
theorem vX5_listWorn : CV mX5_listWorn 1 := ⟨⟨rfl, ⟨ch6_0 _ (List.mem_of_getElem? (i := 6) rfl), rfl⟩, iniX5, by decide, by decide +kernel, by decide⟩, ⟨ch6_0 _ (List.mem_of_getElem? (i := 5) rfl), rfl⟩, ⟨cp3 _ (List.mem_of_getElem? (i := 10) rfl), rfl⟩⟩
theorem vX5_fillLeft : CV mX5_fillLeft 1 := ⟨⟨rfl, ⟨ch6_0 _ (List.mem_of_getElem? (i := 10) rfl), rfl⟩, iniX5, by decide, by decide +kernel, by decide⟩, ⟨ch6_0 _ (List.mem_of_getElem? (i := 9) rfl), rfl⟩, ⟨cp3 _ (List.mem_of_getElem? (i := 11) rfl), rfl⟩⟩
theorem sX5_canGo : CS mX5_canGo 4 := ⟨⟨rfl, ⟨ch6_0 _ (List.mem_of_getElem? (i := 14) rfl), rfl⟩, iniX5, by decide, by decide +kernel, by decide⟩, ⟨ch6_0 _ (List.mem_of_getElem? (i := 13) rfl), rfl⟩⟩
theorem vX5_costWith : CV mX5_costWith 4 := ⟨⟨rfl, ⟨ch6_1 _ (List.mem_of_getElem? (i := 2) rfl), rfl⟩, iniX5, by decide, by decide +kernel, by decide⟩, ⟨ch6_1 _ (List.mem_of_getElem? (i := 1) rfl), rfl⟩, ⟨cp3 _ (List.mem_of_getElem? (i := 12) rfl), rfl⟩⟩
theorem vX5_goesTo : CV mX5_goesTo 2 := ⟨⟨rfl, ⟨ch6_1 _ (List.mem_of_getElem? (i := 8) rfl), rfl⟩, iniX5, by decide, by decide +kernel, by decide⟩, ⟨ch6_1 _ (List.mem_of_getElem? (i := 7) rfl), rfl⟩, ⟨cp3 _ (List.mem_of_getElem? (i := 13) rfl), rfl⟩⟩
theorem vX5_firstOf : CV mX5_firstOf 3 := ⟨⟨rfl, ⟨ch6_1 _ (List.mem_of_getElem? (i := 12) rfl), rfl⟩, iniX5, by decide, by decide +kernel, by decide⟩, ⟨ch6_1 _ (List.mem_of_getElem? (i := 11) rfl), rfl⟩, ⟨cp3 _ (List.mem_of_getElem? (i := 14) rfl), rfl⟩⟩
theorem vX6_begin : CV mX6_begin 1 := ⟨⟨rfl, ⟨ch2_10 _ (List.mem_of_getElem? (i := 3) rfl), rfl⟩, iniX6, by decide, by decide +kernel, by decide⟩, ⟨ch2_10 _ (List.mem_of_getElem? (i := 1) rfl), rfl⟩, ⟨ch2_10 _ (List.mem_of_getElem? (i := 2) rfl), rfl⟩⟩
theorem vX6_copyFrom : CV mX6_copyFrom 1 := ⟨⟨rfl, ⟨ch5_8 _ (List.mem_of_getElem? (i := 3) rfl), rfl⟩, iniX6, by decide, by decide +kernel, by decide⟩, ⟨ch5_8 _ (List.mem_of_getElem? (i := 1) rfl), rfl⟩, ⟨ch5_8 _ (List.mem_of_getElem? (i := 2) rfl), rfl⟩⟩
theorem sX6_copyRow : CS mX6_copyRow 2 := ⟨⟨rfl, ⟨ch2_10 _ (List.mem_of_getElem? (i := 6) rfl), rfl⟩, iniX6, by decide, by decide +kernel, by decide⟩, ⟨ch2_10 _ (List.mem_of_getElem? (i := 5) rfl), rfl⟩⟩
theorem vX6_pack : CV mX6_pack 2 := ⟨⟨rfl, ⟨ch3_0 _ (List.mem_of_getElem? (i := 13) rfl), rfl⟩, iniX6, by decide, by decide +kernel, by decide⟩, ⟨ch3_0 _ (List.mem_of_getElem? (i := 11) rfl), rfl⟩, ⟨ch3_0 _ (List.mem_of_getElem? (i := 12) rfl), rfl⟩⟩
theorem vX6_unpack : CV mX6_unpack 2 := ⟨⟨rfl, ⟨ch3_5 _ (List.mem_of_getElem? (i := 5) rfl), rfl⟩, iniX6, by decide, by decide +kernel, by decide⟩, ⟨ch3_5 _ (List.mem_of_getElem? (i := 3) rfl), rfl⟩, ⟨ch3_5 _ (List.mem_of_getElem? (i := 4) rfl), rfl⟩⟩
theorem vX6_passDay : CV mX6_passDay 1 := ⟨⟨rfl, ⟨ch3_1 _ (List.mem_of_getElem? (i := 1) rfl), rfl⟩, iniX6, by decide, by decide +kernel, by decide⟩, ⟨ch3_0 _ (List.mem_of_getElem? (i := 15) rfl), rfl⟩, ⟨ch3_1 _ (List.mem_of_getElem? (i := 0) rfl), rfl⟩⟩
theorem vX6_countWorn : CV mX6_countWorn 0 := ⟨⟨rfl, ⟨ch3_4 _ (List.mem_of_getElem? (i := 1) rfl), rfl⟩, iniX6, by decide, by decide +kernel, by decide⟩, ⟨ch3_4 _ (List.mem_of_getElem? (i := 0) rfl), rfl⟩, ⟨cp1 _ (List.mem_of_getElem? (i := 6) rfl), rfl⟩⟩
theorem vX6_wearForADay : CV mX6_wearForADay 2 := ⟨⟨rfl, ⟨ch3_2 _ (List.mem_of_getElem? (i := 1) rfl), rfl⟩, iniX6, by decide, by decide +kernel, by decide⟩, ⟨ch3_2 _ (List.mem_of_getElem? (i := 0) rfl), rfl⟩, ⟨cp1 _ (List.mem_of_getElem? (i := 4) rfl), rfl⟩⟩
theorem vX6_shameToday : CV mX6_shameToday 1 := ⟨⟨rfl, ⟨ch5_4 _ (List.mem_of_getElem? (i := 8) rfl), rfl⟩, iniX6, by decide, by decide +kernel, by decide⟩, ⟨ch5_4 _ (List.mem_of_getElem? (i := 6) rfl), rfl⟩, ⟨ch5_4 _ (List.mem_of_getElem? (i := 7) rfl), rfl⟩⟩
theorem vX6_shameBy : CV mX6_shameBy 2 := ⟨⟨rfl, ⟨ch3_2 _ (List.mem_of_getElem? (i := 5) rfl), rfl⟩, iniX6, by decide, by decide +kernel, by decide⟩, ⟨ch3_2 _ (List.mem_of_getElem? (i := 4) rfl), rfl⟩, ⟨cp1 _ (List.mem_of_getElem? (i := 5) rfl), rfl⟩⟩
theorem vX6_givesBack : CV mX6_givesBack 1 := ⟨⟨rfl, ⟨ch3_4 _ (List.mem_of_getElem? (i := 5) rfl), rfl⟩, iniX6, by decide, by decide +kernel, by decide⟩, ⟨ch3_4 _ (List.mem_of_getElem? (i := 4) rfl), rfl⟩, ⟨cp1 _ (List.mem_of_getElem? (i := 7) rfl), rfl⟩⟩
theorem vX6_maySteal : CV mX6_maySteal 2 := ⟨⟨rfl, ⟨ch5_5 _ (List.mem_of_getElem? (i := 7) rfl), rfl⟩, iniX6, by decide, by decide +kernel, by decide⟩, ⟨ch5_5 _ (List.mem_of_getElem? (i := 5) rfl), rfl⟩, ⟨ch5_5 _ (List.mem_of_getElem? (i := 6) rfl), rfl⟩⟩
theorem vX6_putOn : CV mX6_putOn 2 := ⟨⟨rfl, ⟨ch3_3 _ (List.mem_of_getElem? (i := 13) rfl), rfl⟩, iniX6, by decide, by decide +kernel, by decide⟩, ⟨ch3_3 _ (List.mem_of_getElem? (i := 11) rfl), rfl⟩, ⟨ch3_3 _ (List.mem_of_getElem? (i := 12) rfl), rfl⟩⟩
theorem vX6_putOffAll : CV mX6_putOffAll 1 := ⟨⟨rfl, ⟨ch3_4 _ (List.mem_of_getElem? (i := 9) rfl), rfl⟩, iniX6, by decide, by decide +kernel, by decide⟩, ⟨ch3_4 _ (List.mem_of_getElem? (i := 7) rfl), rfl⟩, ⟨ch3_4 _ (List.mem_of_getElem? (i := 8) rfl), rfl⟩⟩
theorem vX6_standAlways : CV mX6_standAlways 2 := ⟨⟨rfl, ⟨ch5_12 _ (List.mem_of_getElem? (i := 2) rfl), rfl⟩, iniX6, by decide, by decide +kernel, by decide⟩, ⟨ch5_12 _ (List.mem_of_getElem? (i := 0) rfl), rfl⟩, ⟨ch5_12 _ (List.mem_of_getElem? (i := 1) rfl), rfl⟩⟩
theorem vX6_placeOn : CV mX6_placeOn 2 := ⟨⟨rfl, ⟨ch3_1 _ (List.mem_of_getElem? (i := 9) rfl), rfl⟩, iniX6, by decide, by decide +kernel, by decide⟩, ⟨ch3_1 _ (List.mem_of_getElem? (i := 7) rfl), rfl⟩, ⟨ch3_1 _ (List.mem_of_getElem? (i := 8) rfl), rfl⟩⟩
theorem vX6_lookAround : CV mX6_lookAround 1 := ⟨⟨rfl, ⟨ch3_1 _ (List.mem_of_getElem? (i := 5) rfl), rfl⟩, iniX6, by decide, by decide +kernel, by decide⟩, ⟨ch3_1 _ (List.mem_of_getElem? (i := 4) rfl), rfl⟩, ⟨cp1 _ (List.mem_of_getElem? (i := 2) rfl), rfl⟩⟩
theorem vX6_lookersAt : CV mX6_lookersAt 2 := ⟨⟨rfl, ⟨ch3_1 _ (List.mem_of_getElem? (i := 13) rfl), rfl⟩, iniX6, by decide, by decide +kernel, by decide⟩, ⟨ch3_1 _ (List.mem_of_getElem? (i := 12) rfl), rfl⟩, ⟨cp1 _ (List.mem_of_getElem? (i := 3) rfl), rfl⟩⟩
theorem vX6_lookersOn : CV mX6_lookersOn 2 := ⟨⟨rfl, ⟨ch5_4 _ (List.mem_of_getElem? (i := 12) rfl), rfl⟩, iniX6, by decide, by decide +kernel, by decide⟩, ⟨ch5_4 _ (List.mem_of_getElem? (i := 10) rfl), rfl⟩, ⟨ch5_4 _ (List.mem_of_getElem? (i := 11) rfl), rfl⟩⟩
theorem vX6_firstTogether : CV mX6_firstTogether 2 := ⟨⟨rfl, ⟨ch6_11 _ (List.mem_of_getElem? (i := 5) rfl), rfl⟩, iniX6, by decide, by decide +kernel, by decide⟩, ⟨ch6_11 _ (List.mem_of_getElem? (i := 3) rfl), rfl⟩, ⟨ch6_11 _ (List.mem_of_getElem? (i := 4) rfl), rfl⟩⟩
theorem vX6_unseen : CV mX6_unseen 1 := ⟨⟨rfl, ⟨ch6_12 _ (List.mem_of_getElem? (i := 14) rfl), rfl⟩, iniX6, by decide, by decide +kernel, by decide⟩, ⟨ch6_12 _ (List.mem_of_getElem? (i := 12) rfl), rfl⟩, ⟨ch6_12 _ (List.mem_of_getElem? (i := 13) rfl), rfl⟩⟩
theorem vX6_isSeen : CV mX6_isSeen 2 := ⟨⟨rfl, ⟨ch6_13 _ (List.mem_of_getElem? (i := 2) rfl), rfl⟩, iniX6, by decide, by decide +kernel, by decide⟩, ⟨ch6_13 _ (List.mem_of_getElem? (i := 1) rfl), rfl⟩, ⟨cp4 _ (List.mem_of_getElem? (i := 8) rfl), rfl⟩⟩
theorem vX6_wornBits : CV mX6_wornBits 0 := ⟨⟨rfl, ⟨ch4_14 _ (List.mem_of_getElem? (i := 15) rfl), rfl⟩, iniX6, by decide, by decide +kernel, by decide⟩, ⟨ch4_14 _ (List.mem_of_getElem? (i := 13) rfl), rfl⟩, ⟨ch4_14 _ (List.mem_of_getElem? (i := 14) rfl), rfl⟩⟩
theorem vX6_wearsBits : CV mX6_wearsBits 1 := ⟨⟨rfl, ⟨ch5_0 _ (List.mem_of_getElem? (i := 11) rfl), rfl⟩, iniX6, by decide, by decide +kernel, by decide⟩, ⟨ch5_0 _ (List.mem_of_getElem? (i := 9) rfl), rfl⟩, ⟨ch5_0 _ (List.mem_of_getElem? (i := 10) rfl), rfl⟩⟩
theorem vX6_ownsBits : CV mX6_ownsBits 1 := ⟨⟨rfl, ⟨ch5_3 _ (List.mem_of_getElem? (i := 0) rfl), rfl⟩, iniX6, by decide, by decide +kernel, by decide⟩, ⟨ch5_2 _ (List.mem_of_getElem? (i := 14) rfl), rfl⟩, ⟨ch5_2 _ (List.mem_of_getElem? (i := 15) rfl), rfl⟩⟩
theorem vX6_missed : CV mX6_missed 1 := ⟨⟨rfl, ⟨ch5_2 _ (List.mem_of_getElem? (i := 12) rfl), rfl⟩, iniX6, by decide, by decide +kernel, by decide⟩, ⟨ch5_2 _ (List.mem_of_getElem? (i := 10) rfl), rfl⟩, ⟨ch5_2 _ (List.mem_of_getElem? (i := 11) rfl), rfl⟩⟩
theorem vX6_load : CV mX6_load 1 := ⟨⟨rfl, ⟨ch5_2 _ (List.mem_of_getElem? (i := 3) rfl), rfl⟩, iniX6, by decide, by decide +kernel, by decide⟩, ⟨ch5_2 _ (List.mem_of_getElem? (i := 1) rfl), rfl⟩, ⟨ch5_2 _ (List.mem_of_getElem? (i := 2) rfl), rfl⟩⟩
theorem vX6_wealth : CV mX6_wealth 1 := ⟨⟨rfl, ⟨ch5_3 _ (List.mem_of_getElem? (i := 5) rfl), rfl⟩, iniX6, by decide, by decide +kernel, by decide⟩, ⟨ch5_3 _ (List.mem_of_getElem? (i := 3) rfl), rfl⟩, ⟨ch5_3 _ (List.mem_of_getElem? (i := 4) rfl), rfl⟩⟩
theorem vX6_weightOf : CV mX6_weightOf 1 := ⟨⟨rfl, ⟨ch5_2 _ (List.mem_of_getElem? (i := 8) rfl), rfl⟩, iniX6, by decide, by decide +kernel, by decide⟩, ⟨ch5_2 _ (List.mem_of_getElem? (i := 7) rfl), rfl⟩, ⟨cp3 _ (List.mem_of_getElem? (i := 7) rfl), rfl⟩⟩
theorem vX6_oddest : CV mX6_oddest 1 := ⟨⟨rfl, ⟨ch5_3 _ (List.mem_of_getElem? (i := 9) rfl), rfl⟩, iniX6, by decide, by decide +kernel, by decide⟩, ⟨ch5_3 _ (List.mem_of_getElem? (i := 7) rfl), rfl⟩, ⟨ch5_3 _ (List.mem_of_getElem? (i := 8) rfl), rfl⟩⟩
theorem vX6_richest : CV mX6_richest 0 := ⟨⟨rfl, ⟨ch5_10 _ (List.mem_of_getElem? (i := 6) rfl), rfl⟩, iniX6, by decide, by decide +kernel, by decide⟩, ⟨ch5_10 _ (List.mem_of_getElem? (i := 4) rfl), rfl⟩, ⟨ch5_10 _ (List.mem_of_getElem? (i := 5) rfl), rfl⟩⟩
theorem vX6_mostAshamed : CV mX6_mostAshamed 0 := ⟨⟨rfl, ⟨ch5_10 _ (List.mem_of_getElem? (i := 11) rfl), rfl⟩, iniX6, by decide, by decide +kernel, by decide⟩, ⟨ch5_10 _ (List.mem_of_getElem? (i := 9) rfl), rfl⟩, ⟨ch5_10 _ (List.mem_of_getElem? (i := 10) rfl), rfl⟩⟩
theorem vX6_shameOfAll : CV mX6_shameOfAll 0 := ⟨⟨rfl, ⟨ch5_1 _ (List.mem_of_getElem? (i := 2) rfl), rfl⟩, iniX6, by decide, by decide +kernel, by decide⟩, ⟨ch5_1 _ (List.mem_of_getElem? (i := 0) rfl), rfl⟩, ⟨ch5_1 _ (List.mem_of_getElem? (i := 1) rfl), rfl⟩⟩
theorem vX7_start : CV mX7_start 1 := ⟨⟨rfl, ⟨ch5_7 _ (List.mem_of_getElem? (i := 15) rfl), rfl⟩, iniX7, by decide, by decide +kernel, by decide⟩, ⟨ch5_7 _ (List.mem_of_getElem? (i := 13) rfl), rfl⟩, ⟨ch5_7 _ (List.mem_of_getElem? (i := 14) rfl), rfl⟩⟩
theorem vX7_behind : CV mX7_behind 2 := ⟨⟨rfl, ⟨ch5_7 _ (List.mem_of_getElem? (i := 11) rfl), rfl⟩, iniX7, by decide, by decide +kernel, by decide⟩, ⟨ch5_7 _ (List.mem_of_getElem? (i := 9) rfl), rfl⟩, ⟨ch5_7 _ (List.mem_of_getElem? (i := 10) rfl), rfl⟩⟩
theorem vX7_passDays : CV mX7_passDays 1 := ⟨⟨rfl, ⟨ch5_8 _ (List.mem_of_getElem? (i := 7) rfl), rfl⟩, iniX7, by decide, by decide +kernel, by decide⟩, ⟨ch5_8 _ (List.mem_of_getElem? (i := 5) rfl), rfl⟩, ⟨ch5_8 _ (List.mem_of_getElem? (i := 6) rfl), rfl⟩⟩
theorem vX7_endOfWearing : CV mX7_endOfWearing 2 := ⟨⟨rfl, ⟨ch5_9 _ (List.mem_of_getElem? (i := 11) rfl), rfl⟩, iniX7, by decide, by decide +kernel, by decide⟩, ⟨ch5_9 _ (List.mem_of_getElem? (i := 9) rfl), rfl⟩, ⟨ch5_9 _ (List.mem_of_getElem? (i := 10) rfl), rfl⟩⟩
theorem vX7_bestPlace : CV mX7_bestPlace 3 := ⟨⟨rfl, ⟨ch5_11 _ (List.mem_of_getElem? (i := 14) rfl), rfl⟩, iniX7, by decide, by decide +kernel, by decide⟩, ⟨ch5_11 _ (List.mem_of_getElem? (i := 12) rfl), rfl⟩, ⟨ch5_11 _ (List.mem_of_getElem? (i := 13) rfl), rfl⟩⟩
theorem vX7_bestThing : CV mX7_bestThing 3 := ⟨⟨rfl, ⟨ch5_13 _ (List.mem_of_getElem? (i := 1) rfl), rfl⟩, iniX7, by decide, by decide +kernel, by decide⟩, ⟨ch5_12 _ (List.mem_of_getElem? (i := 15) rfl), rfl⟩, ⟨ch5_13 _ (List.mem_of_getElem? (i := 0) rfl), rfl⟩⟩
theorem sX7_isSooner : CS mX7_isSooner 2 := ⟨⟨rfl, ⟨ch5_12 _ (List.mem_of_getElem? (i := 6) rfl), rfl⟩, iniX7, by decide, by decide +kernel, by decide⟩, ⟨ch5_12 _ (List.mem_of_getElem? (i := 5) rfl), rfl⟩⟩
theorem vX7_daysToShame : CV mX7_daysToShame 2 := ⟨⟨rfl, ⟨ch6_13 _ (List.mem_of_getElem? (i := 13) rfl), rfl⟩, iniX7, by decide, by decide +kernel, by decide⟩, ⟨ch6_13 _ (List.mem_of_getElem? (i := 11) rfl), rfl⟩, ⟨ch6_13 _ (List.mem_of_getElem? (i := 12) rfl), rfl⟩⟩
theorem vX7_neverWorn : CV mX7_neverWorn 1 := ⟨⟨rfl, ⟨ch7_0 _ (List.mem_of_getElem? (i := 7) rfl), rfl⟩, iniX7, by decide, by decide +kernel, by decide⟩, ⟨ch7_0 _ (List.mem_of_getElem? (i := 5) rfl), rfl⟩, ⟨ch7_0 _ (List.mem_of_getElem? (i := 6) rfl), rfl⟩⟩
theorem vX7_inFog : CV mX7_inFog 4 := ⟨⟨rfl, ⟨ch6_7 _ (List.mem_of_getElem? (i := 7) rfl), rfl⟩, iniX7, by decide, by decide +kernel, by decide⟩, ⟨ch6_7 _ (List.mem_of_getElem? (i := 5) rfl), rfl⟩, ⟨ch6_7 _ (List.mem_of_getElem? (i := 6) rfl), rfl⟩⟩
theorem vX7_play : CV mX7_play 3 := ⟨⟨rfl, ⟨ch6_8 _ (List.mem_of_getElem? (i := 2) rfl), rfl⟩, iniX7, by decide, by decide +kernel, by decide⟩, ⟨ch6_8 _ (List.mem_of_getElem? (i := 0) rfl), rfl⟩, ⟨ch6_8 _ (List.mem_of_getElem? (i := 1) rfl), rfl⟩⟩
theorem vX7_gain : CV mX7_gain 1 := ⟨⟨rfl, ⟨ch6_8 _ (List.mem_of_getElem? (i := 7) rfl), rfl⟩, iniX7, by decide, by decide +kernel, by decide⟩, ⟨ch6_8 _ (List.mem_of_getElem? (i := 6) rfl), rfl⟩, ⟨cp4 _ (List.mem_of_getElem? (i := 4) rfl), rfl⟩⟩
theorem vX7_rests : CV mX7_rests 1 := ⟨⟨rfl, ⟨ch6_9 _ (List.mem_of_getElem? (i := 1) rfl), rfl⟩, iniX7, by decide, by decide +kernel, by decide⟩, ⟨ch6_9 _ (List.mem_of_getElem? (i := 0) rfl), rfl⟩, ⟨cp4 _ (List.mem_of_getElem? (i := 5) rfl), rfl⟩⟩
theorem vX7_couplesAtRest : CV mX7_couplesAtRest 0 := ⟨⟨rfl, ⟨ch6_8 _ (List.mem_of_getElem? (i := 13) rfl), rfl⟩, iniX7, by decide, by decide +kernel, by decide⟩, ⟨ch6_8 _ (List.mem_of_getElem? (i := 11) rfl), rfl⟩, ⟨ch6_8 _ (List.mem_of_getElem? (i := 12) rfl), rfl⟩⟩
theorem vX7_firstCoupleAtRest : CV mX7_firstCoupleAtRest 0 := ⟨⟨rfl, ⟨ch6_9 _ (List.mem_of_getElem? (i := 5) rfl), rfl⟩, iniX7, by decide, by decide +kernel, by decide⟩, ⟨ch6_9 _ (List.mem_of_getElem? (i := 3) rfl), rfl⟩, ⟨ch6_9 _ (List.mem_of_getElem? (i := 4) rfl), rfl⟩⟩
theorem vX7_drawYears : CV mX7_drawYears 3 := ⟨⟨rfl, ⟨ch6_10 _ (List.mem_of_getElem? (i := 0) rfl), rfl⟩, iniX7, by decide, by decide +kernel, by decide⟩, ⟨ch6_9 _ (List.mem_of_getElem? (i := 14) rfl), rfl⟩, ⟨ch6_9 _ (List.mem_of_getElem? (i := 15) rfl), rfl⟩⟩
theorem vX7_happen : CV mX7_happen 1 := ⟨⟨rfl, ⟨ch6_10 _ (List.mem_of_getElem? (i := 9) rfl), rfl⟩, iniX7, by decide, by decide +kernel, by decide⟩, ⟨ch6_10 _ (List.mem_of_getElem? (i := 8) rfl), rfl⟩, ⟨cp4 _ (List.mem_of_getElem? (i := 7) rfl), rfl⟩⟩
theorem vX7_draw : CV mX7_draw 1 := ⟨⟨rfl, ⟨ch6_10 _ (List.mem_of_getElem? (i := 4) rfl), rfl⟩, iniX7, by decide, by decide +kernel, by decide⟩, ⟨ch6_10 _ (List.mem_of_getElem? (i := 3) rfl), rfl⟩, ⟨cp4 _ (List.mem_of_getElem? (i := 6) rfl), rfl⟩⟩
theorem vX8_find : CV mX8_find 3 := ⟨⟨rfl, ⟨ch6_4 _ (List.mem_of_getElem? (i := 13) rfl), rfl⟩, iniX8, by decide, by decide +kernel, by decide⟩, ⟨ch6_4 _ (List.mem_of_getElem? (i := 11) rfl), rfl⟩, ⟨ch6_4 _ (List.mem_of_getElem? (i := 12) rfl), rfl⟩⟩
theorem vX8_first : CV mX8_first 0 := ⟨⟨rfl, ⟨ch6_5 _ (List.mem_of_getElem? (i := 4) rfl), rfl⟩, iniX8, by decide, by decide +kernel, by decide⟩, ⟨ch6_5 _ (List.mem_of_getElem? (i := 2) rfl), rfl⟩, ⟨ch6_5 _ (List.mem_of_getElem? (i := 3) rfl), rfl⟩⟩
theorem vX8_compare : CV mX8_compare 2 := ⟨⟨rfl, ⟨ch6_5 _ (List.mem_of_getElem? (i := 15) rfl), rfl⟩, iniX8, by decide, by decide +kernel, by decide⟩, ⟨ch6_5 _ (List.mem_of_getElem? (i := 13) rfl), rfl⟩, ⟨ch6_5 _ (List.mem_of_getElem? (i := 14) rfl), rfl⟩⟩
theorem vX8_keepOutcomes : CV mX8_keepOutcomes 2 := ⟨⟨rfl, ⟨ch6_6 _ (List.mem_of_getElem? (i := 4) rfl), rfl⟩, iniX8, by decide, by decide +kernel, by decide⟩, ⟨ch6_6 _ (List.mem_of_getElem? (i := 3) rfl), rfl⟩, ⟨cp4 _ (List.mem_of_getElem? (i := 1) rfl), rfl⟩⟩
theorem vX8_unlikeOutcomes : CV mX8_unlikeOutcomes 1 := ⟨⟨rfl, ⟨ch6_6 _ (List.mem_of_getElem? (i := 8) rfl), rfl⟩, iniX8, by decide, by decide +kernel, by decide⟩, ⟨ch6_6 _ (List.mem_of_getElem? (i := 7) rfl), rfl⟩, ⟨cp4 _ (List.mem_of_getElem? (i := 2) rfl), rfl⟩⟩
theorem vX8_isNewOutcome : CV mX8_isNewOutcome 2 := ⟨⟨rfl, ⟨ch6_6 _ (List.mem_of_getElem? (i := 12) rfl), rfl⟩, iniX8, by decide, by decide +kernel, by decide⟩, ⟨ch6_6 _ (List.mem_of_getElem? (i := 11) rfl), rfl⟩, ⟨cp4 _ (List.mem_of_getElem? (i := 3) rfl), rfl⟩⟩
theorem vX9_feed : CV mX9_feed 5 := ⟨⟨rfl, ⟨ch2_14 _ (List.mem_of_getElem? (i := 5) rfl), rfl⟩, iniX9, by decide, by decide +kernel, by decide⟩, ⟨ch2_14 _ (List.mem_of_getElem? (i := 3) rfl), rfl⟩, ⟨ch2_14 _ (List.mem_of_getElem? (i := 4) rfl), rfl⟩⟩
theorem vX9_city : CV mX9_city 1 := ⟨⟨rfl, ⟨ch3_7 _ (List.mem_of_getElem? (i := 9) rfl), rfl⟩, iniX9, by decide, by decide +kernel, by decide⟩, ⟨ch3_7 _ (List.mem_of_getElem? (i := 7) rfl), rfl⟩, ⟨ch3_7 _ (List.mem_of_getElem? (i := 8) rfl), rfl⟩⟩
theorem vX9_fault : CV mX9_fault 0 := ⟨⟨rfl, ⟨ch2_14 _ (List.mem_of_getElem? (i := 13) rfl), rfl⟩, iniX9, by decide, by decide +kernel, by decide⟩, ⟨ch2_14 _ (List.mem_of_getElem? (i := 11) rfl), rfl⟩, ⟨ch2_14 _ (List.mem_of_getElem? (i := 12) rfl), rfl⟩⟩
theorem vX9_count : CV mX9_count 1 := ⟨⟨rfl, ⟨ch4_13 _ (List.mem_of_getElem? (i := 9) rfl), rfl⟩, iniX9, by decide, by decide +kernel, by decide⟩, ⟨ch4_13 _ (List.mem_of_getElem? (i := 7) rfl), rfl⟩, ⟨ch4_13 _ (List.mem_of_getElem? (i := 8) rfl), rfl⟩⟩
theorem vX9_person : CV mX9_person 2 := ⟨⟨rfl, ⟨ch5_1 _ (List.mem_of_getElem? (i := 9) rfl), rfl⟩, iniX9, by decide, by decide +kernel, by decide⟩, ⟨ch5_1 _ (List.mem_of_getElem? (i := 7) rfl), rfl⟩, ⟨ch5_1 _ (List.mem_of_getElem? (i := 8) rfl), rfl⟩⟩
theorem vX9_thing : CV mX9_thing 2 := ⟨⟨rfl, ⟨ch5_4 _ (List.mem_of_getElem? (i := 0) rfl), rfl⟩, iniX9, by decide, by decide +kernel, by decide⟩, ⟨ch5_3 _ (List.mem_of_getElem? (i := 14) rfl), rfl⟩, ⟨ch5_3 _ (List.mem_of_getElem? (i := 15) rfl), rfl⟩⟩
theorem vX9_days : CV mX9_days 1 := ⟨⟨rfl, ⟨ch3_0 _ (List.mem_of_getElem? (i := 1) rfl), rfl⟩, iniX9, by decide, by decide +kernel, by decide⟩, ⟨ch2_14 _ (List.mem_of_getElem? (i := 15) rfl), rfl⟩, ⟨ch3_0 _ (List.mem_of_getElem? (i := 0) rfl), rfl⟩⟩
theorem vX9_steal : CV mX9_steal 2 := ⟨⟨rfl, ⟨ch5_5 _ (List.mem_of_getElem? (i := 3) rfl), rfl⟩, iniX9, by decide, by decide +kernel, by decide⟩, ⟨ch5_5 _ (List.mem_of_getElem? (i := 1) rfl), rfl⟩, ⟨ch5_5 _ (List.mem_of_getElem? (i := 2) rfl), rfl⟩⟩
theorem vX9_back : CV mX9_back 1 := ⟨⟨rfl, ⟨ch5_5 _ (List.mem_of_getElem? (i := 15) rfl), rfl⟩, iniX9, by decide, by decide +kernel, by decide⟩, ⟨ch5_5 _ (List.mem_of_getElem? (i := 13) rfl), rfl⟩, ⟨ch5_5 _ (List.mem_of_getElem? (i := 14) rfl), rfl⟩⟩
theorem vX9_walk : CV mX9_walk 3 := ⟨⟨rfl, ⟨ch5_6 _ (List.mem_of_getElem? (i := 6) rfl), rfl⟩, iniX9, by decide, by decide +kernel, by decide⟩, ⟨ch5_6 _ (List.mem_of_getElem? (i := 4) rfl), rfl⟩, ⟨ch5_6 _ (List.mem_of_getElem? (i := 5) rfl), rfl⟩⟩
theorem vX9_dye : CV mX9_dye 2 := ⟨⟨rfl, ⟨ch5_6 _ (List.mem_of_getElem? (i := 13) rfl), rfl⟩, iniX9, by decide, by decide +kernel, by decide⟩, ⟨ch5_6 _ (List.mem_of_getElem? (i := 11) rfl), rfl⟩, ⟨ch5_6 _ (List.mem_of_getElem? (i := 12) rfl), rfl⟩⟩
theorem vX9_undo : CV mX9_undo 0 := ⟨⟨rfl, ⟨ch3_4 _ (List.mem_of_getElem? (i := 13) rfl), rfl⟩, iniX9, by decide, by decide +kernel, by decide⟩, ⟨ch3_4 _ (List.mem_of_getElem? (i := 11) rfl), rfl⟩, ⟨ch3_4 _ (List.mem_of_getElem? (i := 12) rfl), rfl⟩⟩
theorem vX9_then : CV mX9_then 3 := ⟨⟨rfl, ⟨ch5_7 _ (List.mem_of_getElem? (i := 4) rfl), rfl⟩, iniX9, by decide, by decide +kernel, by decide⟩, ⟨ch5_7 _ (List.mem_of_getElem? (i := 2) rfl), rfl⟩, ⟨ch5_7 _ (List.mem_of_getElem? (i := 3) rfl), rfl⟩⟩
theorem vX9_later : CV mX9_later 3 := ⟨⟨rfl, ⟨ch5_8 _ (List.mem_of_getElem? (i := 15) rfl), rfl⟩, iniX9, by decide, by decide +kernel, by decide⟩, ⟨ch5_8 _ (List.mem_of_getElem? (i := 13) rfl), rfl⟩, ⟨ch5_8 _ (List.mem_of_getElem? (i := 14) rfl), rfl⟩⟩
theorem vX9_when : CV mX9_when 2 := ⟨⟨rfl, ⟨ch5_9 _ (List.mem_of_getElem? (i := 6) rfl), rfl⟩, iniX9, by decide, by decide +kernel, by decide⟩, ⟨ch5_9 _ (List.mem_of_getElem? (i := 4) rfl), rfl⟩, ⟨ch5_9 _ (List.mem_of_getElem? (i := 5) rfl), rfl⟩⟩
theorem vX9_all : CV mX9_all 2 := ⟨⟨rfl, ⟨ch5_10 _ (List.mem_of_getElem? (i := 2) rfl), rfl⟩, iniX9, by decide, by decide +kernel, by decide⟩, ⟨ch5_10 _ (List.mem_of_getElem? (i := 0) rfl), rfl⟩, ⟨ch5_10 _ (List.mem_of_getElem? (i := 1) rfl), rfl⟩⟩
theorem vX9_where : CV mX9_where 3 := ⟨⟨rfl, ⟨ch5_11 _ (List.mem_of_getElem? (i := 2) rfl), rfl⟩, iniX9, by decide, by decide +kernel, by decide⟩, ⟨ch5_11 _ (List.mem_of_getElem? (i := 0) rfl), rfl⟩, ⟨ch5_11 _ (List.mem_of_getElem? (i := 1) rfl), rfl⟩⟩
theorem vX9_toStand : CV mX9_toStand 2 := ⟨⟨rfl, ⟨ch5_11 _ (List.mem_of_getElem? (i := 10) rfl), rfl⟩, iniX9, by decide, by decide +kernel, by decide⟩, ⟨ch5_11 _ (List.mem_of_getElem? (i := 8) rfl), rfl⟩, ⟨ch5_11 _ (List.mem_of_getElem? (i := 9) rfl), rfl⟩⟩
theorem vX9_toSteal : CV mX9_toSteal 2 := ⟨⟨rfl, ⟨ch5_12 _ (List.mem_of_getElem? (i := 13) rfl), rfl⟩, iniX9, by decide, by decide +kernel, by decide⟩, ⟨ch5_12 _ (List.mem_of_getElem? (i := 11) rfl), rfl⟩, ⟨ch5_12 _ (List.mem_of_getElem? (i := 12) rfl), rfl⟩⟩
theorem vX9_watch : CV mX9_watch 1 := ⟨⟨rfl, ⟨ch5_13 _ (List.mem_of_getElem? (i := 10) rfl), rfl⟩, iniX9, by decide, by decide +kernel, by decide⟩, ⟨ch5_13 _ (List.mem_of_getElem? (i := 8) rfl), rfl⟩, ⟨ch5_13 _ (List.mem_of_getElem? (i := 9) rfl), rfl⟩⟩
theorem vX9_least : CV mX9_least 1 := ⟨⟨rfl, ⟨ch5_14 _ (List.mem_of_getElem? (i := 14) rfl), rfl⟩, iniX9, by decide, by decide +kernel, by decide⟩, ⟨ch5_14 _ (List.mem_of_getElem? (i := 12) rfl), rfl⟩, ⟨ch5_14 _ (List.mem_of_getElem? (i := 13) rfl), rfl⟩⟩
theorem vX9_whose : CV mX9_whose 1 := ⟨⟨rfl, ⟨ch6_2 _ (List.mem_of_getElem? (i := 3) rfl), rfl⟩, iniX9, by decide, by decide +kernel, by decide⟩, ⟨ch6_2 _ (List.mem_of_getElem? (i := 1) rfl), rfl⟩, ⟨ch6_2 _ (List.mem_of_getElem? (i := 2) rfl), rfl⟩⟩
theorem vX9_note : CV mX9_note 3 := ⟨⟨rfl, ⟨ch6_2 _ (List.mem_of_getElem? (i := 11) rfl), rfl⟩, iniX9, by decide, by decide +kernel, by decide⟩, ⟨ch6_2 _ (List.mem_of_getElem? (i := 9) rfl), rfl⟩, ⟨ch6_2 _ (List.mem_of_getElem? (i := 10) rfl), rfl⟩⟩
theorem vX9_forget : CV mX9_forget 0 := ⟨⟨rfl, ⟨ch3_5 _ (List.mem_of_getElem? (i := 9) rfl), rfl⟩, iniX9, by decide, by decide +kernel, by decide⟩, ⟨ch3_5 _ (List.mem_of_getElem? (i := 7) rfl), rfl⟩, ⟨ch3_5 _ (List.mem_of_getElem? (i := 8) rfl), rfl⟩⟩
theorem vX9_vain : CV mX9_vain 1 := ⟨⟨rfl, ⟨ch6_3 _ (List.mem_of_getElem? (i := 11) rfl), rfl⟩, iniX9, by decide, by decide +kernel, by decide⟩, ⟨ch6_3 _ (List.mem_of_getElem? (i := 9) rfl), rfl⟩, ⟨ch6_3 _ (List.mem_of_getElem? (i := 10) rfl), rfl⟩⟩
theorem vX9_ask : CV mX9_ask 1 := ⟨⟨rfl, ⟨ch6_5 _ (List.mem_of_getElem? (i := 11) rfl), rfl⟩, iniX9, by decide, by decide +kernel, by decide⟩, ⟨ch6_5 _ (List.mem_of_getElem? (i := 9) rfl), rfl⟩, ⟨ch6_5 _ (List.mem_of_getElem? (i := 10) rfl), rfl⟩⟩
theorem vX9_fog : CV mX9_fog 3 := ⟨⟨rfl, ⟨ch6_7 _ (List.mem_of_getElem? (i := 3) rfl), rfl⟩, iniX9, by decide, by decide +kernel, by decide⟩, ⟨ch6_7 _ (List.mem_of_getElem? (i := 1) rfl), rfl⟩, ⟨ch6_7 _ (List.mem_of_getElem? (i := 2) rfl), rfl⟩⟩
theorem vX9_game : CV mX9_game 3 := ⟨⟨rfl, ⟨ch6_7 _ (List.mem_of_getElem? (i := 14) rfl), rfl⟩, iniX9, by decide, by decide +kernel, by decide⟩, ⟨ch6_7 _ (List.mem_of_getElem? (i := 12) rfl), rfl⟩, ⟨ch6_7 _ (List.mem_of_getElem? (i := 13) rfl), rfl⟩⟩
theorem vX9_years : CV mX9_years 3 := ⟨⟨rfl, ⟨ch6_9 _ (List.mem_of_getElem? (i := 12) rfl), rfl⟩, iniX9, by decide, by decide +kernel, by decide⟩, ⟨ch6_9 _ (List.mem_of_getElem? (i := 10) rfl), rfl⟩, ⟨ch6_9 _ (List.mem_of_getElem? (i := 11) rfl), rfl⟩⟩
theorem vX9_meet : CV mX9_meet 2 := ⟨⟨rfl, ⟨ch6_11 _ (List.mem_of_getElem? (i := 1) rfl), rfl⟩, iniX9, by decide, by decide +kernel, by decide⟩, ⟨ch6_10 _ (List.mem_of_getElem? (i := 15) rfl), rfl⟩, ⟨ch6_11 _ (List.mem_of_getElem? (i := 0) rfl), rfl⟩⟩
theorem vX9_faced : CV mX9_faced 1 := ⟨⟨rfl, ⟨ch6_11 _ (List.mem_of_getElem? (i := 12) rfl), rfl⟩, iniX9, by decide, by decide +kernel, by decide⟩, ⟨ch6_11 _ (List.mem_of_getElem? (i := 10) rfl), rfl⟩, ⟨ch6_11 _ (List.mem_of_getElem? (i := 11) rfl), rfl⟩⟩
theorem vX9_walks : CV mX9_walks 2 := ⟨⟨rfl, ⟨ch6_12 _ (List.mem_of_getElem? (i := 3) rfl), rfl⟩, iniX9, by decide, by decide +kernel, by decide⟩, ⟨ch6_12 _ (List.mem_of_getElem? (i := 1) rfl), rfl⟩, ⟨ch6_12 _ (List.mem_of_getElem? (i := 2) rfl), rfl⟩⟩
theorem vX9_shamed : CV mX9_shamed 2 := ⟨⟨rfl, ⟨ch6_13 _ (List.mem_of_getElem? (i := 9) rfl), rfl⟩, iniX9, by decide, by decide +kernel, by decide⟩, ⟨ch6_13 _ (List.mem_of_getElem? (i := 7) rfl), rfl⟩, ⟨ch6_13 _ (List.mem_of_getElem? (i := 8) rfl), rfl⟩⟩
theorem vX9_has : CV mX9_has 2 := ⟨⟨rfl, ⟨ch6_14 _ (List.mem_of_getElem? (i := 4) rfl), rfl⟩, iniX9, by decide, by decide +kernel, by decide⟩, ⟨ch6_14 _ (List.mem_of_getElem? (i := 2) rfl), rfl⟩, ⟨ch6_14 _ (List.mem_of_getElem? (i := 3) rfl), rfl⟩⟩
theorem vX9_takes : CV mX9_takes 2 := ⟨⟨rfl, ⟨ch6_14 _ (List.mem_of_getElem? (i := 12) rfl), rfl⟩, iniX9, by decide, by decide +kernel, by decide⟩, ⟨ch6_14 _ (List.mem_of_getElem? (i := 10) rfl), rfl⟩, ⟨ch6_14 _ (List.mem_of_getElem? (i := 11) rfl), rfl⟩⟩
theorem vX9_quiet : CV mX9_quiet 1 := ⟨⟨rfl, ⟨ch7_0 _ (List.mem_of_getElem? (i := 3) rfl), rfl⟩, iniX9, by decide, by decide +kernel, by decide⟩, ⟨ch7_0 _ (List.mem_of_getElem? (i := 1) rfl), rfl⟩, ⟨ch7_0 _ (List.mem_of_getElem? (i := 2) rfl), rfl⟩⟩
theorem vX9_image : CV mX9_image 0 := ⟨⟨rfl, ⟨ch3_6 _ (List.mem_of_getElem? (i := 1) rfl), rfl⟩, iniX9, by decide, by decide +kernel, by decide⟩, ⟨ch3_5 _ (List.mem_of_getElem? (i := 15) rfl), rfl⟩, ⟨ch3_6 _ (List.mem_of_getElem? (i := 0) rfl), rfl⟩⟩
theorem vX9_restore : CV mX9_restore 0 := ⟨⟨rfl, ⟨ch3_7 _ (List.mem_of_getElem? (i := 0) rfl), rfl⟩, iniX9, by decide, by decide +kernel, by decide⟩, ⟨ch3_6 _ (List.mem_of_getElem? (i := 14) rfl), rfl⟩, ⟨ch3_6 _ (List.mem_of_getElem? (i := 15) rfl), rfl⟩⟩
theorem vX9_putBytes : CV mX9_putBytes 1 := ⟨⟨rfl, ⟨ch2_14 _ (List.mem_of_getElem? (i := 9) rfl), rfl⟩, iniX9, by decide, by decide +kernel, by decide⟩, ⟨ch2_14 _ (List.mem_of_getElem? (i := 8) rfl), rfl⟩, ⟨cp1 _ (List.mem_of_getElem? (i := 0) rfl), rfl⟩⟩
theorem vX9_refuse : CV mX9_refuse 2 := ⟨⟨rfl, ⟨ch3_0 _ (List.mem_of_getElem? (i := 5) rfl), rfl⟩, iniX9, by decide, by decide +kernel, by decide⟩, ⟨ch3_0 _ (List.mem_of_getElem? (i := 4) rfl), rfl⟩, ⟨cp1 _ (List.mem_of_getElem? (i := 1) rfl), rfl⟩⟩
theorem vX9_needPerson : CV mX9_needPerson 1 := ⟨⟨rfl, ⟨ch5_1 _ (List.mem_of_getElem? (i := 13) rfl), rfl⟩, iniX9, by decide, by decide +kernel, by decide⟩, ⟨ch5_1 _ (List.mem_of_getElem? (i := 12) rfl), rfl⟩, ⟨cp3 _ (List.mem_of_getElem? (i := 6) rfl), rfl⟩⟩
theorem vX9_needThing : CV mX9_needThing 1 := ⟨⟨rfl, ⟨ch5_4 _ (List.mem_of_getElem? (i := 4) rfl), rfl⟩, iniX9, by decide, by decide +kernel, by decide⟩, ⟨ch5_4 _ (List.mem_of_getElem? (i := 3) rfl), rfl⟩, ⟨cp3 _ (List.mem_of_getElem? (i := 8) rfl), rfl⟩⟩
theorem sX9_needWhat : CS mX9_needWhat 2 := ⟨⟨rfl, ⟨ch4_13 _ (List.mem_of_getElem? (i := 12) rfl), rfl⟩, iniX9, by decide, by decide +kernel, by decide⟩, ⟨ch4_13 _ (List.mem_of_getElem? (i := 11) rfl), rfl⟩⟩
theorem sX9_needWithin : CS mX9_needWithin 3 := ⟨⟨rfl, ⟨ch5_7 _ (List.mem_of_getElem? (i := 7) rfl), rfl⟩, iniX9, by decide, by decide +kernel, by decide⟩, ⟨ch5_7 _ (List.mem_of_getElem? (i := 6) rfl), rfl⟩⟩
theorem vX10_thrown : CV mX10_thrown 0 := ⟨⟨rfl, ⟨ch7_12 _ (List.mem_of_getElem? (i := 14) rfl), rfl⟩, iniX10, by decide, by decide +kernel, by decide⟩, ⟨ch7_12 _ (List.mem_of_getElem? (i := 12) rfl), rfl⟩, ⟨ch7_12 _ (List.mem_of_getElem? (i := 13) rfl), rfl⟩⟩
theorem vX10_right : CV mX10_right 2 := ⟨⟨rfl, ⟨ch7_13 _ (List.mem_of_getElem? (i := 14) rfl), rfl⟩, iniX10, by decide, by decide +kernel, by decide⟩, ⟨ch7_13 _ (List.mem_of_getElem? (i := 13) rfl), rfl⟩, ⟨cp4 _ (List.mem_of_getElem? (i := 10) rfl), rfl⟩⟩
theorem sX10_within : CS mX10_within 3 := ⟨⟨rfl, ⟨ch8_6 _ (List.mem_of_getElem? (i := 12) rfl), rfl⟩, iniX10, by decide, by decide +kernel, by decide⟩, ⟨ch8_6 _ (List.mem_of_getElem? (i := 11) rfl), rfl⟩⟩
theorem sX10_bounded : CS mX10_bounded 3 := ⟨⟨rfl, ⟨ch8_11 _ (List.mem_of_getElem? (i := 6) rfl), rfl⟩, iniX10, by decide, by decide +kernel, by decide⟩, ⟨ch8_11 _ (List.mem_of_getElem? (i := 5) rfl), rfl⟩⟩
theorem sX10_lesser : CS mX10_lesser 2 := ⟨⟨rfl, ⟨ch8_13 _ (List.mem_of_getElem? (i := 4) rfl), rfl⟩, iniX10, by decide, by decide +kernel, by decide⟩, ⟨ch8_13 _ (List.mem_of_getElem? (i := 3) rfl), rfl⟩⟩
theorem vX10_copies : CV mX10_copies 2 := ⟨⟨rfl, ⟨ch8_5 _ (List.mem_of_getElem? (i := 13) rfl), rfl⟩, iniX10, by decide, by decide +kernel, by decide⟩, ⟨ch8_5 _ (List.mem_of_getElem? (i := 12) rfl), rfl⟩, ⟨cp6 _ (List.mem_of_getElem? (i := 1) rfl), rfl⟩⟩
theorem sX10_bits : CS mX10_bits 1 := ⟨⟨rfl, ⟨ch8_11 _ (List.mem_of_getElem? (i := 3) rfl), rfl⟩, iniX10, by decide, by decide +kernel, by decide⟩, ⟨ch8_11 _ (List.mem_of_getElem? (i := 2) rfl), rfl⟩⟩
theorem vX10_feed : CV mX10_feed 5 := ⟨⟨rfl, ⟨ch7_13 _ (List.mem_of_getElem? (i := 2) rfl), rfl⟩, iniX10, by decide, by decide +kernel, by decide⟩, ⟨ch7_13 _ (List.mem_of_getElem? (i := 0) rfl), rfl⟩, ⟨ch7_13 _ (List.mem_of_getElem? (i := 1) rfl), rfl⟩⟩
theorem vX10_lays : CV mX10_lays 1 := ⟨⟨rfl, ⟨ch7_13 _ (List.mem_of_getElem? (i := 6) rfl), rfl⟩, iniX10, by decide, by decide +kernel, by decide⟩, ⟨ch7_13 _ (List.mem_of_getElem? (i := 5) rfl), rfl⟩, ⟨cp4 _ (List.mem_of_getElem? (i := 9) rfl), rfl⟩⟩
theorem vX10_byteAt : CV mX10_byteAt 1 := ⟨⟨rfl, ⟨ch7_14 _ (List.mem_of_getElem? (i := 6) rfl), rfl⟩, iniX10, by decide, by decide +kernel, by decide⟩, ⟨ch7_14 _ (List.mem_of_getElem? (i := 5) rfl), rfl⟩, ⟨cp4 _ (List.mem_of_getElem? (i := 12) rfl), rfl⟩⟩
theorem sX10_isLetter : CS mX10_isLetter 1 := ⟨⟨rfl, ⟨ch7_14 _ (List.mem_of_getElem? (i := 9) rfl), rfl⟩, iniX10, by decide, by decide +kernel, by decide⟩, ⟨ch7_14 _ (List.mem_of_getElem? (i := 8) rfl), rfl⟩⟩
theorem sX10_isDigit : CS mX10_isDigit 1 := ⟨⟨rfl, ⟨ch7_14 _ (List.mem_of_getElem? (i := 12) rfl), rfl⟩, iniX10, by decide, by decide +kernel, by decide⟩, ⟨ch7_14 _ (List.mem_of_getElem? (i := 11) rfl), rfl⟩⟩
theorem vX10_goes : CV mX10_goes 0 := ⟨⟨rfl, ⟨ch7_14 _ (List.mem_of_getElem? (i := 2) rfl), rfl⟩, iniX10, by decide, by decide +kernel, by decide⟩, ⟨ch7_14 _ (List.mem_of_getElem? (i := 1) rfl), rfl⟩, ⟨cp4 _ (List.mem_of_getElem? (i := 11) rfl), rfl⟩⟩
theorem sX10_spelled : CS mX10_spelled 7 := ⟨⟨rfl, ⟨ch8_0 _ (List.mem_of_getElem? (i := 14) rfl), rfl⟩, iniX10, by decide, by decide +kernel, by decide⟩, ⟨ch8_0 _ (List.mem_of_getElem? (i := 13) rfl), rfl⟩⟩
theorem sX10_letters : CS mX10_letters 1 := ⟨⟨rfl, ⟨ch8_0 _ (List.mem_of_getElem? (i := 11) rfl), rfl⟩, iniX10, by decide, by decide +kernel, by decide⟩, ⟨ch8_0 _ (List.mem_of_getElem? (i := 10) rfl), rfl⟩⟩
theorem vX10_knownWord : CV mX10_knownWord 0 := ⟨⟨rfl, ⟨ch8_0 _ (List.mem_of_getElem? (i := 8) rfl), rfl⟩, iniX10, by decide, by decide +kernel, by decide⟩, ⟨ch8_0 _ (List.mem_of_getElem? (i := 7) rfl), rfl⟩, ⟨cp4 _ (List.mem_of_getElem? (i := 15) rfl), rfl⟩⟩
theorem vX10_wrong : CV mX10_wrong 1 := ⟨⟨rfl, ⟨ch8_1 _ (List.mem_of_getElem? (i := 7) rfl), rfl⟩, iniX10, by decide, by decide +kernel, by decide⟩, ⟨ch8_1 _ (List.mem_of_getElem? (i := 6) rfl), rfl⟩, ⟨cp5 _ (List.mem_of_getElem? (i := 1) rfl), rfl⟩⟩
theorem vX10_isGood : CV mX10_isGood 0 := ⟨⟨rfl, ⟨ch8_0 _ (List.mem_of_getElem? (i := 0) rfl), rfl⟩, iniX10, by decide, by decide +kernel, by decide⟩, ⟨ch7_14 _ (List.mem_of_getElem? (i := 15) rfl), rfl⟩, ⟨cp4 _ (List.mem_of_getElem? (i := 13) rfl), rfl⟩⟩
theorem vX10_isSign : CV mX10_isSign 1 := ⟨⟨rfl, ⟨ch8_3 _ (List.mem_of_getElem? (i := 3) rfl), rfl⟩, iniX10, by decide, by decide +kernel, by decide⟩, ⟨ch8_3 _ (List.mem_of_getElem? (i := 2) rfl), rfl⟩, ⟨cp5 _ (List.mem_of_getElem? (i := 8) rfl), rfl⟩⟩
theorem vX10_need : CV mX10_need 1 := ⟨⟨rfl, ⟨ch8_5 _ (List.mem_of_getElem? (i := 9) rfl), rfl⟩, iniX10, by decide, by decide +kernel, by decide⟩, ⟨ch8_5 _ (List.mem_of_getElem? (i := 8) rfl), rfl⟩, ⟨cp6 _ (List.mem_of_getElem? (i := 0) rfl), rfl⟩⟩
theorem vX10_number : CV mX10_number 2 := ⟨⟨rfl, ⟨ch8_1 _ (List.mem_of_getElem? (i := 11) rfl), rfl⟩, iniX10, by decide, by decide +kernel, by decide⟩, ⟨ch8_1 _ (List.mem_of_getElem? (i := 10) rfl), rfl⟩, ⟨cp5 _ (List.mem_of_getElem? (i := 2) rfl), rfl⟩⟩
theorem vX10_isOneOf : CV mX10_isOneOf 1 := ⟨⟨rfl, ⟨ch8_2 _ (List.mem_of_getElem? (i := 3) rfl), rfl⟩, iniX10, by decide, by decide +kernel, by decide⟩, ⟨ch8_2 _ (List.mem_of_getElem? (i := 2) rfl), rfl⟩, ⟨cp5 _ (List.mem_of_getElem? (i := 4) rfl), rfl⟩⟩
theorem vX10_puts : CV mX10_puts 1 := ⟨⟨rfl, ⟨ch8_4 _ (List.mem_of_getElem? (i := 3) rfl), rfl⟩, iniX10, by decide, by decide +kernel, by decide⟩, ⟨ch8_4 _ (List.mem_of_getElem? (i := 2) rfl), rfl⟩, ⟨cp5 _ (List.mem_of_getElem? (i := 12) rfl), rfl⟩⟩
theorem sX10_isOpen : CS mX10_isOpen 1 := ⟨⟨rfl, ⟨ch8_4 _ (List.mem_of_getElem? (i := 10) rfl), rfl⟩, iniX10, by decide, by decide +kernel, by decide⟩, ⟨ch8_4 _ (List.mem_of_getElem? (i := 9) rfl), rfl⟩⟩
theorem sX10_strength : CS mX10_strength 1 := ⟨⟨rfl, ⟨ch8_4 _ (List.mem_of_getElem? (i := 13) rfl), rfl⟩, iniX10, by decide, by decide +kernel, by decide⟩, ⟨ch8_4 _ (List.mem_of_getElem? (i := 12) rfl), rfl⟩⟩
theorem vX10_drops : CV mX10_drops 1 := ⟨⟨rfl, ⟨ch8_4 _ (List.mem_of_getElem? (i := 7) rfl), rfl⟩, iniX10, by decide, by decide +kernel, by decide⟩, ⟨ch8_4 _ (List.mem_of_getElem? (i := 6) rfl), rfl⟩, ⟨cp5 _ (List.mem_of_getElem? (i := 13) rfl), rfl⟩⟩
theorem vX10_waitsFor : CV mX10_waitsFor 1 := ⟨⟨rfl, ⟨ch8_3 _ (List.mem_of_getElem? (i := 11) rfl), rfl⟩, iniX10, by decide, by decide +kernel, by decide⟩, ⟨ch8_3 _ (List.mem_of_getElem? (i := 10) rfl), rfl⟩, ⟨cp5 _ (List.mem_of_getElem? (i := 10) rfl), rfl⟩⟩
theorem vX10_part : CV mX10_part 0 := ⟨⟨rfl, ⟨ch8_3 _ (List.mem_of_getElem? (i := 15) rfl), rfl⟩, iniX10, by decide, by decide +kernel, by decide⟩, ⟨ch8_3 _ (List.mem_of_getElem? (i := 14) rfl), rfl⟩, ⟨cp5 _ (List.mem_of_getElem? (i := 11) rfl), rfl⟩⟩
theorem vX10_deeper : CV mX10_deeper 0 := ⟨⟨rfl, ⟨ch8_2 _ (List.mem_of_getElem? (i := 15) rfl), rfl⟩, iniX10, by decide, by decide +kernel, by decide⟩, ⟨ch8_2 _ (List.mem_of_getElem? (i := 14) rfl), rfl⟩, ⟨cp5 _ (List.mem_of_getElem? (i := 7) rfl), rfl⟩⟩
theorem vX10_operand : CV mX10_operand 1 := ⟨⟨rfl, ⟨ch8_3 _ (List.mem_of_getElem? (i := 7) rfl), rfl⟩, iniX10, by decide, by decide +kernel, by decide⟩, ⟨ch8_3 _ (List.mem_of_getElem? (i := 6) rfl), rfl⟩, ⟨cp5 _ (List.mem_of_getElem? (i := 9) rfl), rfl⟩⟩
theorem vX10_isOpened : CV mX10_isOpened 0 := ⟨⟨rfl, ⟨ch8_5 _ (List.mem_of_getElem? (i := 1) rfl), rfl⟩, iniX10, by decide, by decide +kernel, by decide⟩, ⟨ch8_5 _ (List.mem_of_getElem? (i := 0) rfl), rfl⟩, ⟨cp5 _ (List.mem_of_getElem? (i := 14) rfl), rfl⟩⟩
theorem vX10_closes : CV mX10_closes 0 := ⟨⟨rfl, ⟨ch8_5 _ (List.mem_of_getElem? (i := 5) rfl), rfl⟩, iniX10, by decide, by decide +kernel, by decide⟩, ⟨ch8_5 _ (List.mem_of_getElem? (i := 4) rfl), rfl⟩, ⟨cp5 _ (List.mem_of_getElem? (i := 15) rfl), rfl⟩⟩
theorem vX10_expression : CV mX10_expression 2 := ⟨⟨rfl, ⟨ch8_2 _ (List.mem_of_getElem? (i := 11) rfl), rfl⟩, iniX10, by decide, by decide +kernel, by decide⟩, ⟨ch8_2 _ (List.mem_of_getElem? (i := 10) rfl), rfl⟩, ⟨cp5 _ (List.mem_of_getElem? (i := 6) rfl), rfl⟩⟩
theorem vX10_begins : CV mX10_begins 3 := ⟨⟨rfl, ⟨ch8_1 _ (List.mem_of_getElem? (i := 3) rfl), rfl⟩, iniX10, by decide, by decide +kernel, by decide⟩, ⟨ch8_1 _ (List.mem_of_getElem? (i := 2) rfl), rfl⟩, ⟨cp5 _ (List.mem_of_getElem? (i := 0) rfl), rfl⟩⟩
theorem vX10_readsPerson : CV mX10_readsPerson 1 := ⟨⟨rfl, ⟨ch8_1 _ (List.mem_of_getElem? (i := 15) rfl), rfl⟩, iniX10, by decide, by decide +kernel, by decide⟩, ⟨ch8_1 _ (List.mem_of_getElem? (i := 14) rfl), rfl⟩, ⟨cp5 _ (List.mem_of_getElem? (i := 3) rfl), rfl⟩⟩
theorem vX10_readsThing : CV mX10_readsThing 0 := ⟨⟨rfl, ⟨ch8_2 _ (List.mem_of_getElem? (i := 7) rfl), rfl⟩, iniX10, by decide, by decide +kernel, by decide⟩, ⟨ch8_2 _ (List.mem_of_getElem? (i := 6) rfl), rfl⟩, ⟨cp5 _ (List.mem_of_getElem? (i := 5) rfl), rfl⟩⟩
theorem vX10_line : CV mX10_line 0 := ⟨⟨rfl, ⟨ch8_0 _ (List.mem_of_getElem? (i := 4) rfl), rfl⟩, iniX10, by decide, by decide +kernel, by decide⟩, ⟨ch8_0 _ (List.mem_of_getElem? (i := 3) rfl), rfl⟩, ⟨cp4 _ (List.mem_of_getElem? (i := 14) rfl), rfl⟩⟩
theorem vX10_city : CV mX10_city 1 := ⟨⟨rfl, ⟨ch7_13 _ (List.mem_of_getElem? (i := 10) rfl), rfl⟩, iniX10, by decide, by decide +kernel, by decide⟩, ⟨ch7_13 _ (List.mem_of_getElem? (i := 8) rfl), rfl⟩, ⟨ch7_13 _ (List.mem_of_getElem? (i := 9) rfl), rfl⟩⟩
theorem vX10_fault : CV mX10_fault 0 := ⟨⟨rfl, ⟨ch8_6 _ (List.mem_of_getElem? (i := 1) rfl), rfl⟩, iniX10, by decide, by decide +kernel, by decide⟩, ⟨ch8_5 _ (List.mem_of_getElem? (i := 15) rfl), rfl⟩, ⟨ch8_6 _ (List.mem_of_getElem? (i := 0) rfl), rfl⟩⟩
theorem vX10_keeps : CV mX10_keeps 0 := ⟨⟨rfl, ⟨ch8_12 _ (List.mem_of_getElem? (i := 9) rfl), rfl⟩, iniX10, by decide, by decide +kernel, by decide⟩, ⟨ch8_12 _ (List.mem_of_getElem? (i := 8) rfl), rfl⟩, ⟨cp7 _ (List.mem_of_getElem? (i := 3) rfl), rfl⟩⟩
theorem vX10_refuses : CV mX10_refuses 1 := ⟨⟨rfl, ⟨ch8_12 _ (List.mem_of_getElem? (i := 5) rfl), rfl⟩, iniX10, by decide, by decide +kernel, by decide⟩, ⟨ch8_12 _ (List.mem_of_getElem? (i := 4) rfl), rfl⟩, ⟨cp7 _ (List.mem_of_getElem? (i := 2) rfl), rfl⟩⟩
theorem vX10_undo : CV mX10_undo 0 := ⟨⟨rfl, ⟨ch8_6 _ (List.mem_of_getElem? (i := 5) rfl), rfl⟩, iniX10, by decide, by decide +kernel, by decide⟩, ⟨ch8_6 _ (List.mem_of_getElem? (i := 3) rfl), rfl⟩, ⟨ch8_6 _ (List.mem_of_getElem? (i := 4) rfl), rfl⟩⟩
theorem vX10_tries : CV mX10_tries 0 := ⟨⟨rfl, ⟨ch9_1 _ (List.mem_of_getElem? (i := 8) rfl), rfl⟩, iniX10, by decide, by decide +kernel, by decide⟩, ⟨ch9_1 _ (List.mem_of_getElem? (i := 7) rfl), rfl⟩, ⟨cp7 _ (List.mem_of_getElem? (i := 13) rfl), rfl⟩⟩
theorem sX10_works : CS mX10_works 3 := ⟨⟨rfl, ⟨ch8_11 _ (List.mem_of_getElem? (i := 13) rfl), rfl⟩, iniX10, by decide, by decide +kernel, by decide⟩, ⟨ch8_11 _ (List.mem_of_getElem? (i := 12) rfl), rfl⟩⟩
theorem vX10_reckons : CV mX10_reckons 1 := ⟨⟨rfl, ⟨ch8_11 _ (List.mem_of_getElem? (i := 10) rfl), rfl⟩, iniX10, by decide, by decide +kernel, by decide⟩, ⟨ch8_11 _ (List.mem_of_getElem? (i := 9) rfl), rfl⟩, ⟨cp7 _ (List.mem_of_getElem? (i := 1) rfl), rfl⟩⟩
theorem vX10_placeOn : CV mX10_placeOn 3 := ⟨⟨rfl, ⟨ch8_9 _ (List.mem_of_getElem? (i := 0) rfl), rfl⟩, iniX10, by decide, by decide +kernel, by decide⟩, ⟨ch8_8 _ (List.mem_of_getElem? (i := 15) rfl), rfl⟩, ⟨cp6 _ (List.mem_of_getElem? (i := 9) rfl), rfl⟩⟩
theorem vX10_looksAt : CV mX10_looksAt 3 := ⟨⟨rfl, ⟨ch8_11 _ (List.mem_of_getElem? (i := 0) rfl), rfl⟩, iniX10, by decide, by decide +kernel, by decide⟩, ⟨ch8_10 _ (List.mem_of_getElem? (i := 15) rfl), rfl⟩, ⟨cp7 _ (List.mem_of_getElem? (i := 0) rfl), rfl⟩⟩
theorem vX10_wornBy : CV mX10_wornBy 2 := ⟨⟨rfl, ⟨ch8_7 _ (List.mem_of_getElem? (i := 4) rfl), rfl⟩, iniX10, by decide, by decide +kernel, by decide⟩, ⟨ch8_7 _ (List.mem_of_getElem? (i := 3) rfl), rfl⟩, ⟨cp6 _ (List.mem_of_getElem? (i := 3) rfl), rfl⟩⟩
theorem vX10_wornOnes : CV mX10_wornOnes 1 := ⟨⟨rfl, ⟨ch8_7 _ (List.mem_of_getElem? (i := 0) rfl), rfl⟩, iniX10, by decide, by decide +kernel, by decide⟩, ⟨ch8_6 _ (List.mem_of_getElem? (i := 15) rfl), rfl⟩, ⟨cp6 _ (List.mem_of_getElem? (i := 2) rfl), rfl⟩⟩
theorem vX10_eyesOn : CV mX10_eyesOn 2 := ⟨⟨rfl, ⟨ch8_10 _ (List.mem_of_getElem? (i := 12) rfl), rfl⟩, iniX10, by decide, by decide +kernel, by decide⟩, ⟨ch8_10 _ (List.mem_of_getElem? (i := 11) rfl), rfl⟩, ⟨cp6 _ (List.mem_of_getElem? (i := 15) rfl), rfl⟩⟩
theorem vX10_shameOf : CV mX10_shameOf 2 := ⟨⟨rfl, ⟨ch8_10 _ (List.mem_of_getElem? (i := 8) rfl), rfl⟩, iniX10, by decide, by decide +kernel, by decide⟩, ⟨ch8_10 _ (List.mem_of_getElem? (i := 7) rfl), rfl⟩, ⟨cp6 _ (List.mem_of_getElem? (i := 14) rfl), rfl⟩⟩
theorem vX10_isOff : CV mX10_isOff 2 := ⟨⟨rfl, ⟨ch8_13 _ (List.mem_of_getElem? (i := 8) rfl), rfl⟩, iniX10, by decide, by decide +kernel, by decide⟩, ⟨ch8_13 _ (List.mem_of_getElem? (i := 7) rfl), rfl⟩, ⟨cp7 _ (List.mem_of_getElem? (i := 6) rfl), rfl⟩⟩
theorem vX10_thingGoes : CV mX10_thingGoes 2 := ⟨⟨rfl, ⟨ch8_13 _ (List.mem_of_getElem? (i := 1) rfl), rfl⟩, iniX10, by decide, by decide +kernel, by decide⟩, ⟨ch8_13 _ (List.mem_of_getElem? (i := 0) rfl), rfl⟩, ⟨cp7 _ (List.mem_of_getElem? (i := 5) rfl), rfl⟩⟩
theorem vX10_returns0 : CV mX10_returns0 2 := ⟨⟨rfl, ⟨ch8_13 _ (List.mem_of_getElem? (i := 12) rfl), rfl⟩, iniX10, by decide, by decide +kernel, by decide⟩, ⟨ch8_13 _ (List.mem_of_getElem? (i := 11) rfl), rfl⟩, ⟨cp7 _ (List.mem_of_getElem? (i := 7) rfl), rfl⟩⟩
theorem vX10_givesAll : CV mX10_givesAll 2 := ⟨⟨rfl, ⟨ch8_14 _ (List.mem_of_getElem? (i := 0) rfl), rfl⟩, iniX10, by decide, by decide +kernel, by decide⟩, ⟨ch8_13 _ (List.mem_of_getElem? (i := 15) rfl), rfl⟩, ⟨cp7 _ (List.mem_of_getElem? (i := 8) rfl), rfl⟩⟩
theorem vX10_dayGoes : CV mX10_dayGoes 1 := ⟨⟨rfl, ⟨ch8_12 _ (List.mem_of_getElem? (i := 13) rfl), rfl⟩, iniX10, by decide, by decide +kernel, by decide⟩, ⟨ch8_12 _ (List.mem_of_getElem? (i := 12) rfl), rfl⟩, ⟨cp7 _ (List.mem_of_getElem? (i := 4) rfl), rfl⟩⟩
theorem vX10_daysGo : CV mX10_daysGo 1 := ⟨⟨rfl, ⟨ch9_1 _ (List.mem_of_getElem? (i := 12) rfl), rfl⟩, iniX10, by decide, by decide +kernel, by decide⟩, ⟨ch9_1 _ (List.mem_of_getElem? (i := 11) rfl), rfl⟩, ⟨cp7 _ (List.mem_of_getElem? (i := 14) rfl), rfl⟩⟩
theorem vX10_comesTo : CV mX10_comesTo 1 := ⟨⟨rfl, ⟨ch8_7 _ (List.mem_of_getElem? (i := 12) rfl), rfl⟩, iniX10, by decide, by decide +kernel, by decide⟩, ⟨ch8_7 _ (List.mem_of_getElem? (i := 11) rfl), rfl⟩, ⟨cp6 _ (List.mem_of_getElem? (i := 5) rfl), rfl⟩⟩
theorem vX10_ringsNow : CV mX10_ringsNow 0 := ⟨⟨rfl, ⟨ch8_7 _ (List.mem_of_getElem? (i := 8) rfl), rfl⟩, iniX10, by decide, by decide +kernel, by decide⟩, ⟨ch8_7 _ (List.mem_of_getElem? (i := 7) rfl), rfl⟩, ⟨cp6 _ (List.mem_of_getElem? (i := 4) rfl), rfl⟩⟩
theorem vX10_shameAll : CV mX10_shameAll 1 := ⟨⟨rfl, ⟨ch8_8 _ (List.mem_of_getElem? (i := 0) rfl), rfl⟩, iniX10, by decide, by decide +kernel, by decide⟩, ⟨ch8_7 _ (List.mem_of_getElem? (i := 15) rfl), rfl⟩, ⟨cp6 _ (List.mem_of_getElem? (i := 6) rfl), rfl⟩⟩
theorem vX10_count : CV mX10_count 1 := ⟨⟨rfl, ⟨ch8_6 _ (List.mem_of_getElem? (i := 9) rfl), rfl⟩, iniX10, by decide, by decide +kernel, by decide⟩, ⟨ch8_6 _ (List.mem_of_getElem? (i := 7) rfl), rfl⟩, ⟨ch8_6 _ (List.mem_of_getElem? (i := 8) rfl), rfl⟩⟩
theorem vX10_isPerson : CV mX10_isPerson 1 := ⟨⟨rfl, ⟨ch8_8 _ (List.mem_of_getElem? (i := 8) rfl), rfl⟩, iniX10, by decide, by decide +kernel, by decide⟩, ⟨ch8_8 _ (List.mem_of_getElem? (i := 7) rfl), rfl⟩, ⟨cp6 _ (List.mem_of_getElem? (i := 7) rfl), rfl⟩⟩
theorem vX10_isThing : CV mX10_isThing 1 := ⟨⟨rfl, ⟨ch8_10 _ (List.mem_of_getElem? (i := 4) rfl), rfl⟩, iniX10, by decide, by decide +kernel, by decide⟩, ⟨ch8_10 _ (List.mem_of_getElem? (i := 3) rfl), rfl⟩, ⟨cp6 _ (List.mem_of_getElem? (i := 13) rfl), rfl⟩⟩
theorem vX10_isWhat : CV mX10_isWhat 2 := ⟨⟨rfl, ⟨ch8_8 _ (List.mem_of_getElem? (i := 12) rfl), rfl⟩, iniX10, by decide, by decide +kernel, by decide⟩, ⟨ch8_8 _ (List.mem_of_getElem? (i := 11) rfl), rfl⟩, ⟨cp6 _ (List.mem_of_getElem? (i := 8) rfl), rfl⟩⟩
theorem vX10_isSoon : CV mX10_isSoon 3 := ⟨⟨rfl, ⟨ch9_1 _ (List.mem_of_getElem? (i := 0) rfl), rfl⟩, iniX10, by decide, by decide +kernel, by decide⟩, ⟨ch9_0 _ (List.mem_of_getElem? (i := 15) rfl), rfl⟩, ⟨cp7 _ (List.mem_of_getElem? (i := 11) rfl), rfl⟩⟩
theorem vX10_ownedBy : CV mX10_ownedBy 2 := ⟨⟨rfl, ⟨ch8_9 _ (List.mem_of_getElem? (i := 8) rfl), rfl⟩, iniX10, by decide, by decide +kernel, by decide⟩, ⟨ch8_9 _ (List.mem_of_getElem? (i := 7) rfl), rfl⟩, ⟨cp6 _ (List.mem_of_getElem? (i := 11) rfl), rfl⟩⟩
theorem vX10_heavy : CV mX10_heavy 1 := ⟨⟨rfl, ⟨ch8_9 _ (List.mem_of_getElem? (i := 4) rfl), rfl⟩, iniX10, by decide, by decide +kernel, by decide⟩, ⟨ch8_9 _ (List.mem_of_getElem? (i := 3) rfl), rfl⟩, ⟨cp6 _ (List.mem_of_getElem? (i := 10) rfl), rfl⟩⟩
theorem vX10_oddest : CV mX10_oddest 1 := ⟨⟨rfl, ⟨ch8_9 _ (List.mem_of_getElem? (i := 12) rfl), rfl⟩, iniX10, by decide, by decide +kernel, by decide⟩, ⟨ch8_9 _ (List.mem_of_getElem? (i := 11) rfl), rfl⟩, ⟨cp6 _ (List.mem_of_getElem? (i := 12) rfl), rfl⟩⟩
theorem vX10_person : CV mX10_person 2 := ⟨⟨rfl, ⟨ch8_8 _ (List.mem_of_getElem? (i := 4) rfl), rfl⟩, iniX10, by decide, by decide +kernel, by decide⟩, ⟨ch8_8 _ (List.mem_of_getElem? (i := 2) rfl), rfl⟩, ⟨ch8_8 _ (List.mem_of_getElem? (i := 3) rfl), rfl⟩⟩
theorem vX10_thing : CV mX10_thing 2 := ⟨⟨rfl, ⟨ch8_10 _ (List.mem_of_getElem? (i := 0) rfl), rfl⟩, iniX10, by decide, by decide +kernel, by decide⟩, ⟨ch8_9 _ (List.mem_of_getElem? (i := 14) rfl), rfl⟩, ⟨ch8_9 _ (List.mem_of_getElem? (i := 15) rfl), rfl⟩⟩
theorem vX10_days : CV mX10_days 1 := ⟨⟨rfl, ⟨ch8_12 _ (List.mem_of_getElem? (i := 1) rfl), rfl⟩, iniX10, by decide, by decide +kernel, by decide⟩, ⟨ch8_11 _ (List.mem_of_getElem? (i := 15) rfl), rfl⟩, ⟨ch8_12 _ (List.mem_of_getElem? (i := 0) rfl), rfl⟩⟩
theorem vX10_maySteal : CV mX10_maySteal 3 := ⟨⟨rfl, ⟨ch8_14 _ (List.mem_of_getElem? (i := 8) rfl), rfl⟩, iniX10, by decide, by decide +kernel, by decide⟩, ⟨ch8_14 _ (List.mem_of_getElem? (i := 7) rfl), rfl⟩, ⟨cp7 _ (List.mem_of_getElem? (i := 9) rfl), rfl⟩⟩
theorem vX10_steals : CV mX10_steals 3 := ⟨⟨rfl, ⟨ch8_14 _ (List.mem_of_getElem? (i := 12) rfl), rfl⟩, iniX10, by decide, by decide +kernel, by decide⟩, ⟨ch8_14 _ (List.mem_of_getElem? (i := 11) rfl), rfl⟩, ⟨cp7 _ (List.mem_of_getElem? (i := 10) rfl), rfl⟩⟩
theorem vX10_steal : CV mX10_steal 2 := ⟨⟨rfl, ⟨ch8_14 _ (List.mem_of_getElem? (i := 4) rfl), rfl⟩, iniX10, by decide, by decide +kernel, by decide⟩, ⟨ch8_14 _ (List.mem_of_getElem? (i := 2) rfl), rfl⟩, ⟨ch8_14 _ (List.mem_of_getElem? (i := 3) rfl), rfl⟩⟩
theorem vX10_back : CV mX10_back 1 := ⟨⟨rfl, ⟨ch9_0 _ (List.mem_of_getElem? (i := 0) rfl), rfl⟩, iniX10, by decide, by decide +kernel, by decide⟩, ⟨ch8_14 _ (List.mem_of_getElem? (i := 14) rfl), rfl⟩, ⟨ch8_14 _ (List.mem_of_getElem? (i := 15) rfl), rfl⟩⟩
theorem vX10_walk : CV mX10_walk 3 := ⟨⟨rfl, ⟨ch9_0 _ (List.mem_of_getElem? (i := 4) rfl), rfl⟩, iniX10, by decide, by decide +kernel, by decide⟩, ⟨ch9_0 _ (List.mem_of_getElem? (i := 2) rfl), rfl⟩, ⟨ch9_0 _ (List.mem_of_getElem? (i := 3) rfl), rfl⟩⟩
theorem vX10_dye : CV mX10_dye 2 := ⟨⟨rfl, ⟨ch9_0 _ (List.mem_of_getElem? (i := 8) rfl), rfl⟩, iniX10, by decide, by decide +kernel, by decide⟩, ⟨ch9_0 _ (List.mem_of_getElem? (i := 6) rfl), rfl⟩, ⟨ch9_0 _ (List.mem_of_getElem? (i := 7) rfl), rfl⟩⟩
theorem vX10_goesTo : CV mX10_goesTo 1 := ⟨⟨rfl, ⟨ch9_1 _ (List.mem_of_getElem? (i := 4) rfl), rfl⟩, iniX10, by decide, by decide +kernel, by decide⟩, ⟨ch9_1 _ (List.mem_of_getElem? (i := 3) rfl), rfl⟩, ⟨cp7 _ (List.mem_of_getElem? (i := 12) rfl), rfl⟩⟩
theorem vX10_then : CV mX10_then 3 := ⟨⟨rfl, ⟨ch9_0 _ (List.mem_of_getElem? (i := 12) rfl), rfl⟩, iniX10, by decide, by decide +kernel, by decide⟩, ⟨ch9_0 _ (List.mem_of_getElem? (i := 10) rfl), rfl⟩, ⟨ch9_0 _ (List.mem_of_getElem? (i := 11) rfl), rfl⟩⟩
theorem vX10_later : CV mX10_later 3 := ⟨⟨rfl, ⟨ch9_2 _ (List.mem_of_getElem? (i := 0) rfl), rfl⟩, iniX10, by decide, by decide +kernel, by decide⟩, ⟨ch9_1 _ (List.mem_of_getElem? (i := 14) rfl), rfl⟩, ⟨ch9_1 _ (List.mem_of_getElem? (i := 15) rfl), rfl⟩⟩
theorem vX10_ownIn : CV mX10_ownIn 2 := ⟨⟨rfl, ⟨ch9_2 _ (List.mem_of_getElem? (i := 8) rfl), rfl⟩, iniX10, by decide, by decide +kernel, by decide⟩, ⟨ch9_2 _ (List.mem_of_getElem? (i := 7) rfl), rfl⟩, ⟨cp7 _ (List.mem_of_getElem? (i := 15) rfl), rfl⟩⟩
theorem sX10_orNone : CS mX10_orNone 1 := ⟨⟨rfl, ⟨ch9_2 _ (List.mem_of_getElem? (i := 12) rfl), rfl⟩, iniX10, by decide, by decide +kernel, by decide⟩, ⟨ch9_2 _ (List.mem_of_getElem? (i := 11) rfl), rfl⟩⟩
theorem vX10_when : CV mX10_when 2 := ⟨⟨rfl, ⟨ch9_2 _ (List.mem_of_getElem? (i := 4) rfl), rfl⟩, iniX10, by decide, by decide +kernel, by decide⟩, ⟨ch9_2 _ (List.mem_of_getElem? (i := 2) rfl), rfl⟩, ⟨ch9_2 _ (List.mem_of_getElem? (i := 3) rfl), rfl⟩⟩
theorem vX10_all : CV mX10_all 2 := ⟨⟨rfl, ⟨ch9_3 _ (List.mem_of_getElem? (i := 0) rfl), rfl⟩, iniX10, by decide, by decide +kernel, by decide⟩, ⟨ch9_2 _ (List.mem_of_getElem? (i := 14) rfl), rfl⟩, ⟨ch9_2 _ (List.mem_of_getElem? (i := 15) rfl), rfl⟩⟩
theorem vX10_where : CV mX10_where 3 := ⟨⟨rfl, ⟨ch9_3 _ (List.mem_of_getElem? (i := 4) rfl), rfl⟩, iniX10, by decide, by decide +kernel, by decide⟩, ⟨ch9_3 _ (List.mem_of_getElem? (i := 2) rfl), rfl⟩, ⟨ch9_3 _ (List.mem_of_getElem? (i := 3) rfl), rfl⟩⟩
theorem vX10_shamed : CV mX10_shamed 2 := ⟨⟨rfl, ⟨ch9_3 _ (List.mem_of_getElem? (i := 8) rfl), rfl⟩, iniX10, by decide, by decide +kernel, by decide⟩, ⟨ch9_3 _ (List.mem_of_getElem? (i := 6) rfl), rfl⟩, ⟨ch9_3 _ (List.mem_of_getElem? (i := 7) rfl), rfl⟩⟩
theorem vX10_has : CV mX10_has 2 := ⟨⟨rfl, ⟨ch9_3 _ (List.mem_of_getElem? (i := 12) rfl), rfl⟩, iniX10, by decide, by decide +kernel, by decide⟩, ⟨ch9_3 _ (List.mem_of_getElem? (i := 10) rfl), rfl⟩, ⟨ch9_3 _ (List.mem_of_getElem? (i := 11) rfl), rfl⟩⟩
theorem vX10_takes : CV mX10_takes 2 := ⟨⟨rfl, ⟨ch9_4 _ (List.mem_of_getElem? (i := 0) rfl), rfl⟩, iniX10, by decide, by decide +kernel, by decide⟩, ⟨ch9_3 _ (List.mem_of_getElem? (i := 14) rfl), rfl⟩, ⟨ch9_3 _ (List.mem_of_getElem? (i := 15) rfl), rfl⟩⟩
theorem vX10_quiet : CV mX10_quiet 1 := ⟨⟨rfl, ⟨ch9_4 _ (List.mem_of_getElem? (i := 4) rfl), rfl⟩, iniX10, by decide, by decide +kernel, by decide⟩, ⟨ch9_4 _ (List.mem_of_getElem? (i := 2) rfl), rfl⟩, ⟨ch9_4 _ (List.mem_of_getElem? (i := 3) rfl), rfl⟩⟩
theorem vX10_toStand : CV mX10_toStand 2 := ⟨⟨rfl, ⟨ch9_4 _ (List.mem_of_getElem? (i := 8) rfl), rfl⟩, iniX10, by decide, by decide +kernel, by decide⟩, ⟨ch9_4 _ (List.mem_of_getElem? (i := 6) rfl), rfl⟩, ⟨ch9_4 _ (List.mem_of_getElem? (i := 7) rfl), rfl⟩⟩
theorem vX10_toSteal : CV mX10_toSteal 2 := ⟨⟨rfl, ⟨ch9_4 _ (List.mem_of_getElem? (i := 12) rfl), rfl⟩, iniX10, by decide, by decide +kernel, by decide⟩, ⟨ch9_4 _ (List.mem_of_getElem? (i := 10) rfl), rfl⟩, ⟨ch9_4 _ (List.mem_of_getElem? (i := 11) rfl), rfl⟩⟩
theorem vX10_watch : CV mX10_watch 1 := ⟨⟨rfl, ⟨ch9_5 _ (List.mem_of_getElem? (i := 0) rfl), rfl⟩, iniX10, by decide, by decide +kernel, by decide⟩, ⟨ch9_4 _ (List.mem_of_getElem? (i := 14) rfl), rfl⟩, ⟨ch9_4 _ (List.mem_of_getElem? (i := 15) rfl), rfl⟩⟩
theorem vX10_isSeenAt : CV mX10_isSeenAt 3 := ⟨⟨rfl, ⟨ch9_5 _ (List.mem_of_getElem? (i := 4) rfl), rfl⟩, iniX10, by decide, by decide +kernel, by decide⟩, ⟨ch9_5 _ (List.mem_of_getElem? (i := 3) rfl), rfl⟩, ⟨cp8 _ (List.mem_of_getElem? (i := 0) rfl), rfl⟩⟩
theorem vX10_goesAt : CV mX10_goesAt 3 := ⟨⟨rfl, ⟨ch9_6 _ (List.mem_of_getElem? (i := 0) rfl), rfl⟩, iniX10, by decide, by decide +kernel, by decide⟩, ⟨ch9_5 _ (List.mem_of_getElem? (i := 15) rfl), rfl⟩, ⟨cp8 _ (List.mem_of_getElem? (i := 2) rfl), rfl⟩⟩
theorem vX10_canGo : CV mX10_canGo 3 := ⟨⟨rfl, ⟨ch9_5 _ (List.mem_of_getElem? (i := 12) rfl), rfl⟩, iniX10, by decide, by decide +kernel, by decide⟩, ⟨ch9_5 _ (List.mem_of_getElem? (i := 11) rfl), rfl⟩, ⟨cp8 _ (List.mem_of_getElem? (i := 1) rfl), rfl⟩⟩
theorem vX10_least : CV mX10_least 1 := ⟨⟨rfl, ⟨ch9_5 _ (List.mem_of_getElem? (i := 8) rfl), rfl⟩, iniX10, by decide, by decide +kernel, by decide⟩, ⟨ch9_5 _ (List.mem_of_getElem? (i := 6) rfl), rfl⟩, ⟨ch9_5 _ (List.mem_of_getElem? (i := 7) rfl), rfl⟩⟩
theorem vX10_whose : CV mX10_whose 1 := ⟨⟨rfl, ⟨ch9_6 _ (List.mem_of_getElem? (i := 4) rfl), rfl⟩, iniX10, by decide, by decide +kernel, by decide⟩, ⟨ch9_6 _ (List.mem_of_getElem? (i := 2) rfl), rfl⟩, ⟨ch9_6 _ (List.mem_of_getElem? (i := 3) rfl), rfl⟩⟩
theorem vX10_meet : CV mX10_meet 2 := ⟨⟨rfl, ⟨ch9_6 _ (List.mem_of_getElem? (i := 8) rfl), rfl⟩, iniX10, by decide, by decide +kernel, by decide⟩, ⟨ch9_6 _ (List.mem_of_getElem? (i := 6) rfl), rfl⟩, ⟨ch9_6 _ (List.mem_of_getElem? (i := 7) rfl), rfl⟩⟩
theorem vX10_faced : CV mX10_faced 1 := ⟨⟨rfl, ⟨ch9_6 _ (List.mem_of_getElem? (i := 12) rfl), rfl⟩, iniX10, by decide, by decide +kernel, by decide⟩, ⟨ch9_6 _ (List.mem_of_getElem? (i := 10) rfl), rfl⟩, ⟨ch9_6 _ (List.mem_of_getElem? (i := 11) rfl), rfl⟩⟩
theorem vX10_walks : CV mX10_walks 2 := ⟨⟨rfl, ⟨ch9_7 _ (List.mem_of_getElem? (i := 0) rfl), rfl⟩, iniX10, by decide, by decide +kernel, by decide⟩, ⟨ch9_6 _ (List.mem_of_getElem? (i := 14) rfl), rfl⟩, ⟨ch9_6 _ (List.mem_of_getElem? (i := 15) rfl), rfl⟩⟩
theorem vX10_note : CV mX10_note 3 := ⟨⟨rfl, ⟨ch9_7 _ (List.mem_of_getElem? (i := 4) rfl), rfl⟩, iniX10, by decide, by decide +kernel, by decide⟩, ⟨ch9_7 _ (List.mem_of_getElem? (i := 2) rfl), rfl⟩, ⟨ch9_7 _ (List.mem_of_getElem? (i := 3) rfl), rfl⟩⟩
theorem vX10_forget : CV mX10_forget 0 := ⟨⟨rfl, ⟨ch9_7 _ (List.mem_of_getElem? (i := 8) rfl), rfl⟩, iniX10, by decide, by decide +kernel, by decide⟩, ⟨ch9_7 _ (List.mem_of_getElem? (i := 6) rfl), rfl⟩, ⟨ch9_7 _ (List.mem_of_getElem? (i := 7) rfl), rfl⟩⟩
theorem vX10_isNoted : CV mX10_isNoted 0 := ⟨⟨rfl, ⟨ch9_8 _ (List.mem_of_getElem? (i := 0) rfl), rfl⟩, iniX10, by decide, by decide +kernel, by decide⟩, ⟨ch9_7 _ (List.mem_of_getElem? (i := 15) rfl), rfl⟩, ⟨cp8 _ (List.mem_of_getElem? (i := 3) rfl), rfl⟩⟩
theorem vX10_isGuess : CV mX10_isGuess 1 := ⟨⟨rfl, ⟨ch9_8 _ (List.mem_of_getElem? (i := 4) rfl), rfl⟩, iniX10, by decide, by decide +kernel, by decide⟩, ⟨ch9_8 _ (List.mem_of_getElem? (i := 3) rfl), rfl⟩, ⟨cp8 _ (List.mem_of_getElem? (i := 4) rfl), rfl⟩⟩
theorem vX10_vain : CV mX10_vain 1 := ⟨⟨rfl, ⟨ch9_7 _ (List.mem_of_getElem? (i := 12) rfl), rfl⟩, iniX10, by decide, by decide +kernel, by decide⟩, ⟨ch9_7 _ (List.mem_of_getElem? (i := 10) rfl), rfl⟩, ⟨ch9_7 _ (List.mem_of_getElem? (i := 11) rfl), rfl⟩⟩
theorem vX10_areLike : CV mX10_areLike 3 := ⟨⟨rfl, ⟨ch9_8 _ (List.mem_of_getElem? (i := 12) rfl), rfl⟩, iniX10, by decide, by decide +kernel, by decide⟩, ⟨ch9_8 _ (List.mem_of_getElem? (i := 11) rfl), rfl⟩, ⟨cp8 _ (List.mem_of_getElem? (i := 5) rfl), rfl⟩⟩
theorem vX10_ask : CV mX10_ask 1 := ⟨⟨rfl, ⟨ch9_8 _ (List.mem_of_getElem? (i := 8) rfl), rfl⟩, iniX10, by decide, by decide +kernel, by decide⟩, ⟨ch9_8 _ (List.mem_of_getElem? (i := 6) rfl), rfl⟩, ⟨ch9_8 _ (List.mem_of_getElem? (i := 7) rfl), rfl⟩⟩
theorem vX10_fog : CV mX10_fog 3 := ⟨⟨rfl, ⟨ch9_9 _ (List.mem_of_getElem? (i := 0) rfl), rfl⟩, iniX10, by decide, by decide +kernel, by decide⟩, ⟨ch9_8 _ (List.mem_of_getElem? (i := 14) rfl), rfl⟩, ⟨ch9_8 _ (List.mem_of_getElem? (i := 15) rfl), rfl⟩⟩
theorem vX10_gains : CV mX10_gains 4 := ⟨⟨rfl, ⟨ch9_9 _ (List.mem_of_getElem? (i := 8) rfl), rfl⟩, iniX10, by decide, by decide +kernel, by decide⟩, ⟨ch9_9 _ (List.mem_of_getElem? (i := 7) rfl), rfl⟩, ⟨cp8 _ (List.mem_of_getElem? (i := 6) rfl), rfl⟩⟩
theorem vX10_game : CV mX10_game 3 := ⟨⟨rfl, ⟨ch9_9 _ (List.mem_of_getElem? (i := 4) rfl), rfl⟩, iniX10, by decide, by decide +kernel, by decide⟩, ⟨ch9_9 _ (List.mem_of_getElem? (i := 2) rfl), rfl⟩, ⟨ch9_9 _ (List.mem_of_getElem? (i := 3) rfl), rfl⟩⟩
theorem vX10_draw : CV mX10_draw 1 := ⟨⟨rfl, ⟨ch9_10 _ (List.mem_of_getElem? (i := 4) rfl), rfl⟩, iniX10, by decide, by decide +kernel, by decide⟩, ⟨ch9_10 _ (List.mem_of_getElem? (i := 3) rfl), rfl⟩, ⟨cp8 _ (List.mem_of_getElem? (i := 8) rfl), rfl⟩⟩
theorem vX10_happens : CV mX10_happens 0 := ⟨⟨rfl, ⟨ch9_10 _ (List.mem_of_getElem? (i := 0) rfl), rfl⟩, iniX10, by decide, by decide +kernel, by decide⟩, ⟨ch9_9 _ (List.mem_of_getElem? (i := 15) rfl), rfl⟩, ⟨cp8 _ (List.mem_of_getElem? (i := 7) rfl), rfl⟩⟩
theorem vX10_years : CV mX10_years 3 := ⟨⟨rfl, ⟨ch9_9 _ (List.mem_of_getElem? (i := 12) rfl), rfl⟩, iniX10, by decide, by decide +kernel, by decide⟩, ⟨ch9_9 _ (List.mem_of_getElem? (i := 10) rfl), rfl⟩, ⟨ch9_9 _ (List.mem_of_getElem? (i := 11) rfl), rfl⟩⟩
theorem vX10_image : CV mX10_image 0 := ⟨⟨rfl, ⟨ch9_10 _ (List.mem_of_getElem? (i := 9) rfl), rfl⟩, iniX10, by decide, by decide +kernel, by decide⟩, ⟨ch9_10 _ (List.mem_of_getElem? (i := 7) rfl), rfl⟩, ⟨ch9_10 _ (List.mem_of_getElem? (i := 8) rfl), rfl⟩⟩
theorem vX10_restore : CV mX10_restore 0 := ⟨⟨rfl, ⟨ch9_10 _ (List.mem_of_getElem? (i := 13) rfl), rfl⟩, iniX10, by decide, by decide +kernel, by decide⟩, ⟨ch9_10 _ (List.mem_of_getElem? (i := 11) rfl), rfl⟩, ⟨ch9_10 _ (List.mem_of_getElem? (i := 12) rfl), rfl⟩⟩
theorem sJ11_isValidCodePoint_9a6ad : CS mJ11_isValidCodePoint_9a6ad 1 := ⟨⟨rfl, ⟨ch4_2 _ (List.mem_of_getElem? (i := 4) rfl), rfl⟩, iniJ11, by decide, by decide +kernel, by decide⟩, ⟨ch4_2 _ (List.mem_of_getElem? (i := 3) rfl), rfl⟩⟩
theorem sJ11_highSurrogate_5068e : CS mJ11_highSurrogate_5068e 1 := ⟨⟨rfl, ⟨ch4_2 _ (List.mem_of_getElem? (i := 7) rfl), rfl⟩, iniJ11, by decide, by decide +kernel, by decide⟩, ⟨ch4_2 _ (List.mem_of_getElem? (i := 6) rfl), rfl⟩⟩
theorem sJ11_lowSurrogate_5068e : CS mJ11_lowSurrogate_5068e 1 := ⟨⟨rfl, ⟨ch4_2 _ (List.mem_of_getElem? (i := 11) rfl), rfl⟩, iniJ11, by decide, by decide +kernel, by decide⟩, ⟨ch4_2 _ (List.mem_of_getElem? (i := 10) rfl), rfl⟩⟩
theorem sJ6_bitCount_0f7a4 : CS mJ6_bitCount_0f7a4 1 := ⟨⟨rfl, ⟨ch3_2 _ (List.mem_of_getElem? (i := 8) rfl), rfl⟩, iniJ6, by decide, by decide +kernel, by decide⟩, ⟨ch3_2 _ (List.mem_of_getElem? (i := 7) rfl), rfl⟩⟩
theorem sJ9_max_7cf53 : CS mJ9_max_7cf53 2 := ⟨⟨rfl, ⟨ch3_3 _ (List.mem_of_getElem? (i := 9) rfl), rfl⟩, iniJ9, by decide, by decide +kernel, by decide⟩, ⟨ch3_3 _ (List.mem_of_getElem? (i := 8) rfl), rfl⟩⟩
theorem sJ9_min_7cf53 : CS mJ9_min_7cf53 2 := ⟨⟨rfl, ⟨ch2_10 _ (List.mem_of_getElem? (i := 9) rfl), rfl⟩, iniJ9, by decide, by decide +kernel, by decide⟩, ⟨ch2_10 _ (List.mem_of_getElem? (i := 8) rfl), rfl⟩⟩
theorem vJ0_length_8abf5 : CV mJ0_length_8abf5 0 := ⟨⟨rfl, ⟨ch3_13 _ (List.mem_of_getElem? (i := 12) rfl), rfl⟩, iniJ0, by decide, by decide +kernel, by decide⟩, ⟨ch3_13 _ (List.mem_of_getElem? (i := 10) rfl), rfl⟩, ⟨ch3_13 _ (List.mem_of_getElem? (i := 11) rfl), rfl⟩⟩
theorem vJ0_charAt_5068e : CV mJ0_charAt_5068e 1 := ⟨⟨rfl, ⟨ch4_3 _ (List.mem_of_getElem? (i := 14) rfl), rfl⟩, iniJ0, by decide, by decide +kernel, by decide⟩, ⟨ch4_3 _ (List.mem_of_getElem? (i := 12) rfl), rfl⟩, ⟨ch4_3 _ (List.mem_of_getElem? (i := 13) rfl), rfl⟩⟩
theorem vJ0_indexOf_0f7a4 : CV mJ0_indexOf_0f7a4 1 := ⟨⟨rfl, ⟨ch3_12 _ (List.mem_of_getElem? (i := 14) rfl), rfl⟩, iniJ0, by decide, by decide +kernel, by decide⟩, ⟨ch3_12 _ (List.mem_of_getElem? (i := 12) rfl), rfl⟩, ⟨ch3_12 _ (List.mem_of_getElem? (i := 13) rfl), rfl⟩⟩
theorem vJ0_indexOf_7cf53 : CV mJ0_indexOf_7cf53 2 := ⟨⟨rfl, ⟨ch3_13 _ (List.mem_of_getElem? (i := 2) rfl), rfl⟩, iniJ0, by decide, by decide +kernel, by decide⟩, ⟨ch3_13 _ (List.mem_of_getElem? (i := 0) rfl), rfl⟩, ⟨ch3_13 _ (List.mem_of_getElem? (i := 1) rfl), rfl⟩⟩
theorem vJ0_coder_7d493 : CV mJ0_coder_7d493 0 := ⟨⟨rfl, ⟨ch3_14 _ (List.mem_of_getElem? (i := 0) rfl), rfl⟩, iniJ0, by decide, by decide +kernel, by decide⟩, ⟨ch3_13 _ (List.mem_of_getElem? (i := 14) rfl), rfl⟩, ⟨ch3_13 _ (List.mem_of_getElem? (i := 15) rfl), rfl⟩⟩
theorem vJ0_isLatin1_aae02 : CV mJ0_isLatin1_aae02 0 := ⟨⟨rfl, ⟨ch3_13 _ (List.mem_of_getElem? (i := 6) rfl), rfl⟩, iniJ0, by decide, by decide +kernel, by decide⟩, ⟨ch3_13 _ (List.mem_of_getElem? (i := 4) rfl), rfl⟩, ⟨ch3_13 _ (List.mem_of_getElem? (i := 5) rfl), rfl⟩⟩
theorem sJ0_checkIndex_df160 : CS mJ0_checkIndex_df160 2 := ⟨⟨rfl, ⟨ch4_4 _ (List.mem_of_getElem? (i := 4) rfl), rfl⟩, iniJ0, by decide, by decide +kernel, by decide⟩, ⟨ch4_4 _ (List.mem_of_getElem? (i := 3) rfl), rfl⟩⟩
theorem sJ0_checkBoundsBeginEnd_23922 : CS mJ0_checkBoundsBeginEnd_23922 3 := ⟨⟨rfl, ⟨ch4_0 _ (List.mem_of_getElem? (i := 13) rfl), rfl⟩, iniJ0, by decide, by decide +kernel, by decide⟩, ⟨ch4_0 _ (List.mem_of_getElem? (i := 12) rfl), rfl⟩⟩
theorem sJ1_charAt_3b067 : CS mJ1_charAt_3b067 2 := ⟨⟨rfl, ⟨ch4_4 _ (List.mem_of_getElem? (i := 1) rfl), rfl⟩, iniJ1, by decide, by decide +kernel, by decide⟩, ⟨ch4_4 _ (List.mem_of_getElem? (i := 0) rfl), rfl⟩⟩
theorem sJ1_canEncode_9a6ad : CS mJ1_canEncode_9a6ad 1 := ⟨⟨rfl, ⟨ch3_14 _ (List.mem_of_getElem? (i := 6) rfl), rfl⟩, iniJ1, by decide, by decide +kernel, by decide⟩, ⟨ch3_14 _ (List.mem_of_getElem? (i := 5) rfl), rfl⟩⟩
theorem sJ1_indexOf_4cfef : CS mJ1_indexOf_4cfef 4 := ⟨⟨rfl, ⟨ch3_14 _ (List.mem_of_getElem? (i := 3) rfl), rfl⟩, iniJ1, by decide, by decide +kernel, by decide⟩, ⟨ch3_14 _ (List.mem_of_getElem? (i := 2) rfl), rfl⟩⟩
theorem sJ1_indexOfChar_4cfef : CS mJ1_indexOfChar_4cfef 4 := ⟨⟨rfl, ⟨ch3_14 _ (List.mem_of_getElem? (i := 11) rfl), rfl⟩, iniJ1, by decide, by decide +kernel, by decide⟩, ⟨ch3_14 _ (List.mem_of_getElem? (i := 10) rfl), rfl⟩⟩
theorem sJ2_getChar_3b067 : CS mJ2_getChar_3b067 2 := ⟨⟨rfl, ⟨ch4_1 _ (List.mem_of_getElem? (i := 8) rfl), rfl⟩, iniJ2, by decide, by decide +kernel, by decide⟩, ⟨ch4_1 _ (List.mem_of_getElem? (i := 7) rfl), rfl⟩⟩
theorem sJ2_length_9d52b : CS mJ2_length_9d52b 1 := ⟨⟨rfl, ⟨ch4_0 _ (List.mem_of_getElem? (i := 10) rfl), rfl⟩, iniJ2, by decide, by decide +kernel, by decide⟩, ⟨ch4_0 _ (List.mem_of_getElem? (i := 9) rfl), rfl⟩⟩
theorem sJ2_indexOf_4cfef : CS mJ2_indexOf_4cfef 4 := ⟨⟨rfl, ⟨ch3_14 _ (List.mem_of_getElem? (i := 14) rfl), rfl⟩, iniJ2, by decide, by decide +kernel, by decide⟩, ⟨ch3_14 _ (List.mem_of_getElem? (i := 13) rfl), rfl⟩⟩
theorem sJ2_indexOfChar_4cfef : CS mJ2_indexOfChar_4cfef 4 := ⟨⟨rfl, ⟨ch4_0 _ (List.mem_of_getElem? (i := 4) rfl), rfl⟩, iniJ2, by decide, by decide +kernel, by decide⟩, ⟨ch4_0 _ (List.mem_of_getElem? (i := 3) rfl), rfl⟩⟩
theorem sJ2_indexOfCharUnsafe_4cfef : CS mJ2_indexOfCharUnsafe_4cfef 4 := ⟨⟨rfl, ⟨ch4_1 _ (List.mem_of_getElem? (i := 5) rfl), rfl⟩, iniJ2, by decide, by decide +kernel, by decide⟩, ⟨ch4_1 _ (List.mem_of_getElem? (i := 4) rfl), rfl⟩⟩
theorem sJ2_indexOfSupplementary_4cfef : CS mJ2_indexOfSupplementary_4cfef 4 := ⟨⟨rfl, ⟨ch4_2 _ (List.mem_of_getElem? (i := 1) rfl), rfl⟩, iniJ2, by decide, by decide +kernel, by decide⟩, ⟨ch4_2 _ (List.mem_of_getElem? (i := 0) rfl), rfl⟩⟩
theorem sJ2_charAt_3b067 : CS mJ2_charAt_3b067 2 := ⟨⟨rfl, ⟨ch4_4 _ (List.mem_of_getElem? (i := 10) rfl), rfl⟩, iniJ2, by decide, by decide +kernel, by decide⟩, ⟨ch4_4 _ (List.mem_of_getElem? (i := 9) rfl), rfl⟩⟩
theorem sJ2_checkIndex_2214a : CS mJ2_checkIndex_2214a 2 := ⟨⟨rfl, ⟨ch4_4 _ (List.mem_of_getElem? (i := 13) rfl), rfl⟩, iniJ2, by decide, by decide +kernel, by decide⟩, ⟨ch4_4 _ (List.mem_of_getElem? (i := 12) rfl), rfl⟩⟩
theorem sJ2_checkBoundsBeginEnd_d044e : CS mJ2_checkBoundsBeginEnd_d044e 3 := ⟨⟨rfl, ⟨ch4_0 _ (List.mem_of_getElem? (i := 7) rfl), rfl⟩, iniJ2, by decide, by decide +kernel, by decide⟩, ⟨ch4_0 _ (List.mem_of_getElem? (i := 6) rfl), rfl⟩⟩
theorem sJ7_fill_53178 : CS mJ7_fill_53178 2 := ⟨⟨rfl, ⟨ch1_8 _ (List.mem_of_getElem? (i := 0) rfl), rfl⟩, iniJ7, by decide, by decide +kernel, by decide⟩, ⟨ch1_7 _ (List.mem_of_getElem? (i := 15) rfl), rfl⟩⟩
theorem sJ3_checkIndex_8e157 : CS mJ3_checkIndex_8e157 3 := ⟨⟨rfl, ⟨ch4_4 _ (List.mem_of_getElem? (i := 7) rfl), rfl⟩, iniJ3, by decide, by decide +kernel, by decide⟩, ⟨ch4_4 _ (List.mem_of_getElem? (i := 6) rfl), rfl⟩⟩
theorem sJ3_checkFromToIndex_8c36e : CS mJ3_checkFromToIndex_8c36e 4 := ⟨⟨rfl, ⟨ch4_1 _ (List.mem_of_getElem? (i := 2) rfl), rfl⟩, iniJ3, by decide, by decide +kernel, by decide⟩, ⟨ch4_1 _ (List.mem_of_getElem? (i := 1) rfl), rfl⟩⟩
