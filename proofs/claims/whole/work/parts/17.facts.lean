abbrev mX11_init : q_M := (yX11_init, cX11_init, 2, (none : Option Jvm.ClassFile.FieldType))
abbrev mX6_init : q_M := (yX6_init, cX6_init, 1, (none : Option Jvm.ClassFile.FieldType))
abbrev mX8_init : q_M := (yX8_init, cX8_init, 1, (none : Option Jvm.ClassFile.FieldType))
abbrev mX10_init : q_M := (yX10_init, cX10_init, 1, (none : Option Jvm.ClassFile.FieldType))
abbrev mX9_init : q_M := (yX9_init, cX9_init, 2, (none : Option Jvm.ClassFile.FieldType))
abbrev mX7_init : q_M := (yX7_init, cX7_init, 2, (none : Option Jvm.ClassFile.FieldType))
abbrev mJ9_max_7cf53 : q_M := (yJ9_max_7cf53, cJ9_max_7cf53, 2, (some FieldType.int))
abbrev mX11_row : q_M := (yX11_row, cX11_row, 3, (some FieldType.int))
abbrev mX11_among : q_M := (yX11_among, cX11_among, 2, (some (FieldType.object "TurnedLock$Row")))
abbrev mX11_makeAnew : q_M := (yX11_makeAnew, cX11_makeAnew, 4, (some FieldType.int))
abbrev mX11_found : q_M := (yX11_found, cX11_found, 2, (some FieldType.int))
abbrev mX7_make : q_M := (yX7_make, cX7_make, 4, (none : Option Jvm.ClassFile.FieldType))
abbrev mJ9_min_7cf53 : q_M := (yJ9_min_7cf53, cJ9_min_7cf53, 2, (some FieldType.int))
abbrev mX11_lay : q_M := (yX11_lay, cX11_lay, 6, (some FieldType.int))
abbrev mX11_refusedPlace : q_M := (yX11_refusedPlace, cX11_refusedPlace, 4, (some FieldType.int))
abbrev mX11_refusedRow : q_M := (yX11_refusedRow, cX11_refusedRow, 2, (some FieldType.int))
abbrev mX7_isMissing : q_M := (yX7_isMissing, cX7_isMissing, 1, (some FieldType.boolean))
abbrev mX7_has : q_M := (yX7_has, cX7_has, 2, (some FieldType.boolean))
abbrev mX11_tellNumber : q_M := (yX11_tellNumber, cX11_tellNumber, 2, (none : Option Jvm.ClassFile.FieldType))
abbrev mX11_at : q_M := (yX11_at, cX11_at, 5, (some FieldType.int))
abbrev mX11_tear : q_M := (yX11_tear, cX11_tear, 4, (some FieldType.int))
abbrev mX11_copy : q_M := (yX11_copy, cX11_copy, 8, (some FieldType.int))
abbrev mX7_hasRun : q_M := (yX7_hasRun, cX7_hasRun, 3, (some FieldType.boolean))
abbrev mX11_mean : q_M := (yX11_mean, cX11_mean, 4, (some FieldType.int))
abbrev mX7_sum : q_M := (yX7_sum, cX7_sum, 4, (some FieldType.long))
abbrev mX11_text : q_M := (yX11_text, cX11_text, 3, (some FieldType.int))
abbrev mX11_put : q_M := (yX11_put, cX11_put, 7, (some FieldType.int))
abbrev mX11_fault : q_M := (yX11_fault, cX11_fault, 4, (some FieldType.int))
abbrev mX6_faultOf : q_M := (yX6_faultOf, cX6_faultOf, 3, (some FieldType.int))
abbrev mX6_behindBlanks : q_M := (yX6_behindBlanks, cX6_behindBlanks, 3, (some FieldType.int))
abbrev mX6_signAt : q_M := (yX6_signAt, cX6_signAt, 2, (some FieldType.int))
abbrev mX6_figureAt : q_M := (yX6_figureAt, cX6_figureAt, 5, (some FieldType.int))
abbrev mX6_personsFault : q_M := (yX6_personsFault, cX6_personsFault, 5, (some FieldType.int))
abbrev mX6_kindOf : q_M := (yX6_kindOf, cX6_kindOf, 1, (some FieldType.int))
abbrev mX11_shed : q_M := (yX11_shed, cX11_shed, 5, (some FieldType.int))
abbrev mX8_begin : q_M := (yX8_begin, cX8_begin, 3, (none : Option Jvm.ClassFile.FieldType))
abbrev mX10_make : q_M := (yX10_make, cX10_make, 6, (none : Option Jvm.ClassFile.FieldType))
abbrev mX8_newPerson : q_M := (yX8_newPerson, cX8_newPerson, 4, (some (FieldType.object "TurnedLock$Person")))
abbrev mX4_init : q_M := (yX4_init, cX4_init, 4, (none : Option Jvm.ClassFile.FieldType))
abbrev mX5_init : q_M := (yX5_init, cX5_init, 4, (none : Option Jvm.ClassFile.FieldType))
abbrev mX1_init : q_M := (yX1_init, cX1_init, 4, (none : Option Jvm.ClassFile.FieldType))
abbrev mX2_init : q_M := (yX2_init, cX2_init, 4, (none : Option Jvm.ClassFile.FieldType))
abbrev mX3_init : q_M := (yX3_init, cX3_init, 4, (none : Option Jvm.ClassFile.FieldType))
abbrev mX0_init : q_M := (yX0_init, cX0_init, 4, (none : Option Jvm.ClassFile.FieldType))
abbrev mX8_setFlicks : q_M := (yX8_setFlicks, cX8_setFlicks, 4, (none : Option Jvm.ClassFile.FieldType))
abbrev mX8_personAt : q_M := (yX8_personAt, cX8_personAt, 2, (some (FieldType.object "TurnedLock$Person")))
abbrev mX5_learn : q_M := (yX5_learn, cX5_learn, 3, (none : Option Jvm.ClassFile.FieldType))
abbrev mX0_countWays : q_M := (yX0_countWays, cX0_countWays, 2, (some FieldType.int))
abbrev mX1_noneAboveFlicks : q_M := (yX1_noneAboveFlicks, cX1_noneAboveFlicks, 3, (some FieldType.boolean))
abbrev mX10_notchOf : q_M := (yX10_notchOf, cX10_notchOf, 4, (some FieldType.int))
abbrev mX1_countWays : q_M := (yX1_countWays, cX1_countWays, 2, (some FieldType.int))
abbrev mX10_wheelsIn : q_M := (yX10_wheelsIn, cX10_wheelsIn, 4, (some FieldType.int))
abbrev mX2_countWays : q_M := (yX2_countWays, cX2_countWays, 2, (some FieldType.int))
abbrev mX4_countWays : q_M := (yX4_countWays, cX4_countWays, 7, (some FieldType.int))
abbrev mX3_firstTurned : q_M := (yX3_firstTurned, cX3_firstTurned, 1, (some FieldType.int))
abbrev mX4_firstTurned : q_M := (yX4_firstTurned, cX4_firstTurned, 1, (some FieldType.int))
abbrev mX10_leavesAhead : q_M := (yX10_leavesAhead, cX10_leavesAhead, 4, (some FieldType.boolean))
abbrev mX5_countWays : q_M := (yX5_countWays, cX5_countWays, 4, (some FieldType.int))
abbrev mX8_weighAgain : q_M := (yX8_weighAgain, cX8_weighAgain, 2, (none : Option Jvm.ClassFile.FieldType))
abbrev mX8_setAll : q_M := (yX8_setAll, cX8_setAll, 5, (none : Option Jvm.ClassFile.FieldType))
abbrev mX8_weigh : q_M := (yX8_weigh, cX8_weigh, 4, (none : Option Jvm.ClassFile.FieldType))
abbrev mX8_weighLook : q_M := (yX8_weighLook, cX8_weighLook, 5, (none : Option Jvm.ClassFile.FieldType))
abbrev mX10_turnBetween : q_M := (yX10_turnBetween, cX10_turnBetween, 6, (some FieldType.int))
abbrev mX10_isSetting : q_M := (yX10_isSetting, cX10_isSetting, 2, (some FieldType.boolean))
abbrev mX5_timesOf : q_M := (yX5_timesOf, cX5_timesOf, 2, (some FieldType.int))
abbrev mX11_person : q_M := (yX11_person, cX11_person, 4, (some FieldType.int))
abbrev mX11_factOf : q_M := (yX11_factOf, cX11_factOf, 4, (some FieldType.int))
abbrev mX0_kind : q_M := (yX0_kind, cX0_kind, 1, (some FieldType.int))
abbrev mX1_kind : q_M := (yX1_kind, cX1_kind, 1, (some FieldType.int))
abbrev mX2_kind : q_M := (yX2_kind, cX2_kind, 1, (some FieldType.int))
abbrev mX3_kind : q_M := (yX3_kind, cX3_kind, 1, (some FieldType.int))
abbrev mX4_kind : q_M := (yX4_kind, cX4_kind, 1, (some FieldType.int))
abbrev mX5_kind : q_M := (yX5_kind, cX5_kind, 1, (some FieldType.int))
abbrev mX9_looksAt : q_M := (yX9_looksAt, cX9_looksAt, 4, (some FieldType.int))
abbrev mX11_mark : q_M := (yX11_mark, cX11_mark, 5, (some FieldType.int))
abbrev mX4_unlikeSights : q_M := (yX4_unlikeSights, cX4_unlikeSights, 1, (some FieldType.int))
abbrev mX1_waysLeavingFirst : q_M := (yX1_waysLeavingFirst, cX1_waysLeavingFirst, 3, (some FieldType.int))
abbrev mX8_howManyCanBe : q_M := (yX8_howManyCanBe, cX8_howManyCanBe, 1, (some FieldType.int))
abbrev mX8_howManyAbove : q_M := (yX8_howManyAbove, cX8_howManyAbove, 4, (some FieldType.int))
abbrev mX3_turnedWheels : q_M := (yX3_turnedWheels, cX3_turnedWheels, 1, (some FieldType.int))
abbrev mX0_turnedNotches : q_M := (yX0_turnedNotches, cX0_turnedNotches, 4, (some FieldType.int))
abbrev mX11_flicks : q_M := (yX11_flicks, cX11_flicks, 5, (some FieldType.int))
abbrev mX11_look : q_M := (yX11_look, cX11_look, 3, (some FieldType.int))
abbrev mX8_leftBehindLook : q_M := (yX8_leftBehindLook, cX8_leftBehindLook, 4, (some FieldType.int))
abbrev mX9_isFull : q_M := (yX9_isFull, cX9_isFull, 1, (some FieldType.boolean))
abbrev mX8_addDeed : q_M := (yX8_addDeed, cX8_addDeed, 3, (none : Option Jvm.ClassFile.FieldType))
abbrev mX9_add : q_M := (yX9_add, cX9_add, 3, (none : Option Jvm.ClassFile.FieldType))
abbrev mX11_vain : q_M := (yX11_vain, cX11_vain, 2, (some FieldType.int))
abbrev mX8_leftBehindTry : q_M := (yX8_leftBehindTry, cX8_leftBehindTry, 3, (some FieldType.int))
abbrev mX11_undo : q_M := (yX11_undo, cX11_undo, 3, (some FieldType.int))
abbrev mX11_keep : q_M := (yX11_keep, cX11_keep, 2, (some FieldType.int))
abbrev mX9_takeFrom : q_M := (yX9_takeFrom, cX9_takeFrom, 2, (none : Option Jvm.ClassFile.FieldType))
abbrev mX11_on : q_M := (yX11_on, cX11_on, 2, (some FieldType.int))
abbrev mX8_goOnFrom : q_M := (yX8_goOnFrom, cX8_goOnFrom, 3, (none : Option Jvm.ClassFile.FieldType))
abbrev mX11_likely : q_M := (yX11_likely, cX11_likely, 2, (some FieldType.int))
abbrev mX8_sumOf : q_M := (yX8_sumOf, cX8_sumOf, 5, (some FieldType.long))
abbrev mX11_tellChance : q_M := (yX11_tellChance, cX11_tellChance, 7, (some FieldType.int))
abbrev mX11_greatestShared : q_M := (yX11_greatestShared, cX11_greatestShared, 7, (some FieldType.long))
abbrev mX11_best : q_M := (yX11_best, cX11_best, 2, (some FieldType.int))
abbrev mX8_likeliest : q_M := (yX8_likeliest, cX8_likeliest, 4, (some FieldType.int))
abbrev mX8_howManyAre : q_M := (yX8_howManyAre, cX8_howManyAre, 6, (some FieldType.int))
abbrev mX11_wheel : q_M := (yX11_wheel, cX11_wheel, 3, (some FieldType.int))
abbrev mX10_isWheel : q_M := (yX10_isWheel, cX10_isWheel, 2, (some FieldType.boolean))
abbrev mX8_weightAt : q_M := (yX8_weightAt, cX8_weightAt, 6, (some FieldType.long))
abbrev mX11_certain : q_M := (yX11_certain, cX11_certain, 5, (some FieldType.int))
abbrev mX8_certainNotch : q_M := (yX8_certainNotch, cX8_certainNotch, 3, (some FieldType.int))
abbrev mX8_firstAbove : q_M := (yX8_firstAbove, cX8_firstAbove, 3, (some FieldType.int))
abbrev mX11_order : q_M := (yX11_order, cX11_order, 5, (some FieldType.int))
abbrev mX8_sortCodes : q_M := (yX8_sortCodes, cX8_sortCodes, 4, (some FieldType.int))
abbrev mX11_tries : q_M := (yX11_tries, cX11_tries, 1, (some FieldType.int))
abbrev mX8_triesInAll : q_M := (yX8_triesInAll, cX8_triesInAll, 5, (some FieldType.long))
abbrev mX11_within : q_M := (yX11_within, cX11_within, 2, (some FieldType.int))
abbrev mX8_weightOfFirst : q_M := (yX8_weightOfFirst, cX8_weightOfFirst, 6, (some FieldType.long))
abbrev mX11_worth : q_M := (yX11_worth, cX11_worth, 3, (some FieldType.int))
abbrev mX8_worthOf : q_M := (yX8_worthOf, cX8_worthOf, 2, (some FieldType.long))
abbrev mX8_gather : q_M := (yX8_gather, cX8_gather, 9, (none : Option Jvm.ClassFile.FieldType))
abbrev mX10_turned : q_M := (yX10_turned, cX10_turned, 6, (some FieldType.int))
abbrev mJ9_max_f86c9 : q_M := (yJ9_max_f86c9, cJ9_max_f86c9, 4, (some FieldType.long))
abbrev mX11_whose : q_M := (yX11_whose, cX11_whose, 1, (some FieldType.int))
abbrev mX8_weighWorths : q_M := (yX8_weighWorths, cX8_weighWorths, 3, (none : Option Jvm.ClassFile.FieldType))
abbrev mX8_firstByWorth : q_M := (yX8_firstByWorth, cX8_firstByWorth, 8, (some FieldType.int))
abbrev mX11_seen : q_M := (yX11_seen, cX11_seen, 4, (some FieldType.int))
abbrev mX11_sights : q_M := (yX11_sights, cX11_sights, 3, (some FieldType.int))
abbrev mX11_fits : q_M := (yX11_fits, cX11_fits, 4, (some FieldType.int))
abbrev mX11_refusedTold : q_M := (yX11_refusedTold, cX11_refusedTold, 4, (some FieldType.int))
abbrev mX8_weighTold : q_M := (yX8_weighTold, cX8_weighTold, 4, (none : Option Jvm.ClassFile.FieldType))
abbrev mX11_chance : q_M := (yX11_chance, cX11_chance, 3, (some FieldType.int))
abbrev mX8_waysOfTold : q_M := (yX8_waysOfTold, cX8_waysOfTold, 6, (some FieldType.long))
abbrev mX11_read : q_M := (yX11_read, cX11_read, 3, (some FieldType.int))
abbrev mX11_who : q_M := (yX11_who, cX11_who, 3, (some FieldType.int))
abbrev mX8_likeliestWho : q_M := (yX8_likeliestWho, cX8_likeliestWho, 9, (some FieldType.int))
abbrev mX8_allWho : q_M := (yX8_allWho, cX8_allWho, 7, (some FieldType.int))
abbrev mX11_ways : q_M := (yX11_ways, cX11_ways, 5, (some FieldType.int))
abbrev mX11_apart : q_M := (yX11_apart, cX11_apart, 4, (some FieldType.int))
abbrev mX10_fewestNotchesIn : q_M := (yX10_fewestNotchesIn, cX10_fewestNotchesIn, 5, (some FieldType.int))
abbrev mX11_near : q_M := (yX11_near, cX11_near, 5, (some FieldType.int))
abbrev mX11_lots : q_M := (yX11_lots, cX11_lots, 3, (some FieldType.int))
abbrev mX8_shutByLots : q_M := (yX8_shutByLots, cX8_shutByLots, 9, (some FieldType.int))
abbrev mX8_nextLot : q_M := (yX8_nextLot, cX8_nextLot, 2, (some FieldType.long))
abbrev mX8_lotAmong : q_M := (yX8_lotAmong, cX8_lotAmong, 3, (some FieldType.int))
abbrev mX8_sightOf : q_M := (yX8_sightOf, cX8_sightOf, 6, (some FieldType.int))
abbrev mX11_asked : q_M := (yX11_asked, cX11_asked, 1, (some FieldType.int))
abbrev mX11_upper : q_M := (yX11_upper, cX11_upper, 1, (some FieldType.long))
abbrev mX11_lower : q_M := (yX11_lower, cX11_lower, 1, (some FieldType.long))
abbrev mX11_count : q_M := (yX11_count, cX11_count, 2, (some FieldType.int))
abbrev mX8_howManyAny : q_M := (yX8_howManyAny, cX8_howManyAny, 3, (some FieldType.int))
abbrev mX11_howManyThere : q_M := (yX11_howManyThere, cX11_howManyThere, 3, (some FieldType.int))
abbrev mX11_howManyKept : q_M := (yX11_howManyKept, cX11_howManyKept, 3, (some FieldType.int))
abbrev mX11_finding : q_M := (yX11_finding, cX11_finding, 1, (some FieldType.int))
abbrev mX11_findings : q_M := (yX11_findings, cX11_findings, 2, (some FieldType.int))
abbrev mX11_digest : q_M := (yX11_digest, cX11_digest, 4, (some FieldType.long))
abbrev mX11_digestPersons : q_M := (yX11_digestPersons, cX11_digestPersons, 6, (some FieldType.long))
abbrev mX11_digestRows : q_M := (yX11_digestRows, cX11_digestRows, 5, (some FieldType.long))
abbrev mX12_init : q_M := (yX12_init, cX12_init, 2, (none : Option Jvm.ClassFile.FieldType))
abbrev mX12_row : q_M := (yX12_row, cX12_row, 3, (some FieldType.int))
abbrev mX12_isRow : q_M := (yX12_isRow, cX12_isRow, 1, (some FieldType.boolean))
abbrev mX12_in : q_M := (yX12_in, cX12_in, 6, (some FieldType.boolean))
abbrev mX12_find : q_M := (yX12_find, cX12_find, 2, (some FieldType.int))
abbrev mX12_makeRow : q_M := (yX12_makeRow, cX12_makeRow, 4, (none : Option Jvm.ClassFile.FieldType))
abbrev mX12_lay : q_M := (yX12_lay, cX12_lay, 6, (some FieldType.int))
abbrev mX12_refused : q_M := (yX12_refused, cX12_refused, 3, (some FieldType.int))
abbrev mX12_tell : q_M := (yX12_tell, cX12_tell, 2, (some FieldType.int))
abbrev mX12_at : q_M := (yX12_at, cX12_at, 4, (some FieldType.int))
abbrev mX12_tear : q_M := (yX12_tear, cX12_tear, 2, (some FieldType.int))
abbrev mX12_copy : q_M := (yX12_copy, cX12_copy, 9, (some FieldType.int))
abbrev mX12_isSpan : q_M := (yX12_isSpan, cX12_isSpan, 4, (some FieldType.boolean))
abbrev mX12_mean : q_M := (yX12_mean, cX12_mean, 5, (some FieldType.int))
abbrev mX12_text : q_M := (yX12_text, cX12_text, 4, (some FieldType.int))
abbrev mX12_isText : q_M := (yX12_isText, cX12_isText, 1, (some FieldType.boolean))
abbrev mX12_put : q_M := (yX12_put, cX12_put, 5, (some FieldType.int))
abbrev mX12_fault : q_M := (yX12_fault, cX12_fault, 2, (some FieldType.int))
abbrev mX12_faultOf : q_M := (yX12_faultOf, cX12_faultOf, 3, (some FieldType.int))
abbrev mX12_readsLock : q_M := (yX12_readsLock, cX12_readsLock, 1, (some FieldType.boolean))
abbrev mX12_skip : q_M := (yX12_skip, cX12_skip, 1, (none : Option Jvm.ClassFile.FieldType))
abbrev mX12_here : q_M := (yX12_here, cX12_here, 1, (some FieldType.int))
abbrev mX12_figure : q_M := (yX12_figure, cX12_figure, 3, (some FieldType.int))
abbrev mX12_readsPerson : q_M := (yX12_readsPerson, cX12_readsPerson, 3, (some FieldType.boolean))
abbrev mX12_kindOfLetter : q_M := (yX12_kindOfLetter, cX12_kindOfLetter, 1, (some FieldType.int))
abbrev mX12_shed : q_M := (yX12_shed, cX12_shed, 3, (some FieldType.int))
abbrev mX12_power : q_M := (yX12_power, cX12_power, 4, (some FieldType.int))
abbrev mX12_layWeights : q_M := (yX12_layWeights, cX12_layWeights, 3, (none : Option Jvm.ClassFile.FieldType))
abbrev mX12_weightBy : q_M := (yX12_weightBy, cX12_weightBy, 6, (some FieldType.long))
abbrev mX12_waysOf : q_M := (yX12_waysOf, cX12_waysOf, 6, (some FieldType.int))
abbrev mX12_anyWays : q_M := (yX12_anyWays, cX12_anyWays, 8, (some FieldType.int))
abbrev mX12_up : q_M := (yX12_up, cX12_up, 4, (some FieldType.int))
abbrev mX12_notch : q_M := (yX12_notch, cX12_notch, 3, (some FieldType.int))
abbrev mX12_flicksOf : q_M := (yX12_flicksOf, cX12_flicksOf, 2, (some FieldType.int))
abbrev mX12_wheelWays : q_M := (yX12_wheelWays, cX12_wheelWays, 6, (some FieldType.int))
abbrev mX12_eithers : q_M := (yX12_eithers, cX12_eithers, 3, (some FieldType.int))
abbrev mX12_person : q_M := (yX12_person, cX12_person, 3, (some FieldType.int))
abbrev mX12_isPerson : q_M := (yX12_isPerson, cX12_isPerson, 2, (some FieldType.boolean))
abbrev mX12_toldOf : q_M := (yX12_toldOf, cX12_toldOf, 3, (some FieldType.int))
abbrev mX12_waysInAll : q_M := (yX12_waysInAll, cX12_waysInAll, 3, (some FieldType.int))
abbrev mX12_twoAtMost : q_M := (yX12_twoAtMost, cX12_twoAtMost, 1, (some FieldType.int))
abbrev mX12_lookedAt : q_M := (yX12_lookedAt, cX12_lookedAt, 4, (some FieldType.int))
abbrev mX12_mark : q_M := (yX12_mark, cX12_mark, 3, (some FieldType.int))
abbrev mX12_isOf : q_M := (yX12_isOf, cX12_isOf, 3, (some FieldType.boolean))
abbrev mX12_sightsFrom : q_M := (yX12_sightsFrom, cX12_sightsFrom, 4, (some FieldType.int))
abbrev mX12_waysThatLeave : q_M := (yX12_waysThatLeave, cX12_waysThatLeave, 4, (some FieldType.int))
abbrev mX12_possible : q_M := (yX12_possible, cX12_possible, 3, (some FieldType.int))
abbrev mX12_notchesInAll : q_M := (yX12_notchesInAll, cX12_notchesInAll, 5, (some FieldType.int))
abbrev mX12_flicks : q_M := (yX12_flicks, cX12_flicks, 4, (some FieldType.int))
abbrev mX12_look : q_M := (yX12_look, cX12_look, 3, (some FieldType.int))
abbrev mX12_isSetting : q_M := (yX12_isSetting, cX12_isSetting, 2, (some FieldType.boolean))
abbrev mX12_doDeed : q_M := (yX12_doDeed, cX12_doDeed, 5, (some FieldType.int))
abbrev mX12_vain : q_M := (yX12_vain, cX12_vain, 2, (some FieldType.int))
abbrev mX12_undo : q_M := (yX12_undo, cX12_undo, 3, (some FieldType.int))
abbrev mX12_keep : q_M := (yX12_keep, cX12_keep, 2, (some FieldType.int))
abbrev mX12_copyShed : q_M := (yX12_copyShed, cX12_copyShed, 4, (none : Option Jvm.ClassFile.FieldType))
abbrev mX12_on : q_M := (yX12_on, cX12_on, 2, (some FieldType.int))
abbrev mX12_likely : q_M := (yX12_likely, cX12_likely, 2, (some FieldType.int))
abbrev mX12_allWeights : q_M := (yX12_allWeights, cX12_allWeights, 4, (some FieldType.long))
abbrev mX12_tellParts : q_M := (yX12_tellParts, cX12_tellParts, 11, (some FieldType.int))
abbrev mX12_best : q_M := (yX12_best, cX12_best, 3, (some FieldType.int))
abbrev mX12_wheel : q_M := (yX12_wheel, cX12_wheel, 3, (some FieldType.int))
abbrev mX12_weightsAt : q_M := (yX12_weightsAt, cX12_weightsAt, 6, (some FieldType.long))
abbrev mX12_certain : q_M := (yX12_certain, cX12_certain, 7, (some FieldType.int))
abbrev mX12_order : q_M := (yX12_order, cX12_order, 5, (some FieldType.int))
abbrev mX12_laySorted : q_M := (yX12_laySorted, cX12_laySorted, 4, (some FieldType.int))
abbrev mX12_tries : q_M := (yX12_tries, cX12_tries, 5, (some FieldType.int))
abbrev mX12_within : q_M := (yX12_within, cX12_within, 6, (some FieldType.int))
abbrev mX12_worth : q_M := (yX12_worth, cX12_worth, 2, (some FieldType.int))
abbrev mX12_worthOf : q_M := (yX12_worthOf, cX12_worthOf, 10, (some FieldType.long))
abbrev mX12_whose : q_M := (yX12_whose, cX12_whose, 10, (some FieldType.int))
abbrev mX12_seen : q_M := (yX12_seen, cX12_seen, 3, (some FieldType.int))
abbrev mX12_seenBy : q_M := (yX12_seenBy, cX12_seenBy, 6, (some FieldType.long))
abbrev mX12_sights : q_M := (yX12_sights, cX12_sights, 8, (some FieldType.int))
abbrev mX12_fits : q_M := (yX12_fits, cX12_fits, 5, (some FieldType.int))
abbrev mX12_noLooks : q_M := (yX12_noLooks, cX12_noLooks, 5, (some FieldType.int))
abbrev mX12_chance : q_M := (yX12_chance, cX12_chance, 8, (some FieldType.int))
abbrev mX12_read : q_M := (yX12_read, cX12_read, 5, (some FieldType.int))
abbrev mX12_who : q_M := (yX12_who, cX12_who, 7, (some FieldType.int))
abbrev mX12_ways : q_M := (yX12_ways, cX12_ways, 4, (some FieldType.int))
abbrev mX12_apart : q_M := (yX12_apart, cX12_apart, 4, (some FieldType.int))
abbrev mX12_far : q_M := (yX12_far, cX12_far, 6, (some FieldType.int))
abbrev mX12_near : q_M := (yX12_near, cX12_near, 5, (some FieldType.int))
abbrev mX12_lots : q_M := (yX12_lots, cX12_lots, 8, (some FieldType.int))
abbrev mX12_broughtTo : q_M := (yX12_broughtTo, cX12_broughtTo, 6, (some FieldType.int))
abbrev mX12_asked : q_M := (yX12_asked, cX12_asked, 1, (some FieldType.int))
abbrev mX12_upper : q_M := (yX12_upper, cX12_upper, 1, (some FieldType.long))
abbrev mX12_lower : q_M := (yX12_lower, cX12_lower, 1, (some FieldType.long))
abbrev mX12_count : q_M := (yX12_count, cX12_count, 2, (some FieldType.int))
abbrev mX12_countOf : q_M := (yX12_countOf, cX12_countOf, 2, (some FieldType.int))
abbrev mX12_anys : q_M := (yX12_anys, cX12_anys, 3, (some FieldType.int))
abbrev mX12_thereOf : q_M := (yX12_thereOf, cX12_thereOf, 4, (some FieldType.int))
abbrev mX12_finding : q_M := (yX12_finding, cX12_finding, 1, (some FieldType.int))
abbrev mX12_findings : q_M := (yX12_findings, cX12_findings, 2, (some FieldType.int))
abbrev mX12_digest : q_M := (yX12_digest, cX12_digest, 5, (some FieldType.long))
theorem uX0_t : ∀ w ∈ u_ws RX0 TX0 6, w ∈ lw_tbl := by decide +kernel
theorem uX0_g : ∀ w ∈ u_ws RX0 TX0 6, goodWord w = true := by decide +kernel
theorem uX0 : ∀ w ∈ u_ws RX0 TX0 6, w ∈ q_B := fun w h => q_B_in (uX0_t w h) (uX0_g w h)
theorem uX1_t : ∀ w ∈ u_ws RX1 TX1 6, w ∈ lw_tbl := by decide +kernel
theorem uX1_g : ∀ w ∈ u_ws RX1 TX1 6, goodWord w = true := by decide +kernel
theorem uX1 : ∀ w ∈ u_ws RX1 TX1 6, w ∈ q_B := fun w h => q_B_in (uX1_t w h) (uX1_g w h)
theorem uX2_t : ∀ w ∈ u_ws RX2 TX2 6, w ∈ lw_tbl := by decide +kernel
theorem uX2_g : ∀ w ∈ u_ws RX2 TX2 6, goodWord w = true := by decide +kernel
theorem uX2 : ∀ w ∈ u_ws RX2 TX2 6, w ∈ q_B := fun w h => q_B_in (uX2_t w h) (uX2_g w h)
theorem uX3_t : ∀ w ∈ u_ws RX3 TX3 6, w ∈ lw_tbl := by decide +kernel
theorem uX3_g : ∀ w ∈ u_ws RX3 TX3 6, goodWord w = true := by decide +kernel
theorem uX3 : ∀ w ∈ u_ws RX3 TX3 6, w ∈ q_B := fun w h => q_B_in (uX3_t w h) (uX3_g w h)
theorem uX4_t : ∀ w ∈ u_ws RX4 TX4 6, w ∈ lw_tbl := by decide +kernel
theorem uX4_g : ∀ w ∈ u_ws RX4 TX4 6, goodWord w = true := by decide +kernel
theorem uX4 : ∀ w ∈ u_ws RX4 TX4 6, w ∈ q_B := fun w h => q_B_in (uX4_t w h) (uX4_g w h)
theorem uX5_t : ∀ w ∈ u_ws RX5 TX5 6, w ∈ lw_tbl := by decide +kernel
theorem uX5_g : ∀ w ∈ u_ws RX5 TX5 6, goodWord w = true := by decide +kernel
theorem uX5 : ∀ w ∈ u_ws RX5 TX5 6, w ∈ q_B := fun w h => q_B_in (uX5_t w h) (uX5_g w h)
theorem uX6_t : ∀ w ∈ u_ws RX6 TX6 5, w ∈ lw_tbl := by decide +kernel
theorem uX6_g : ∀ w ∈ u_ws RX6 TX6 5, goodWord w = true := by decide +kernel
theorem uX6 : ∀ w ∈ u_ws RX6 TX6 5, w ∈ q_B := fun w h => q_B_in (uX6_t w h) (uX6_g w h)
theorem uX7_t : ∀ w ∈ u_ws RX7 TX7 2, w ∈ lw_tbl := by decide +kernel
theorem uX7_g : ∀ w ∈ u_ws RX7 TX7 2, goodWord w = true := by decide +kernel
theorem uX7 : ∀ w ∈ u_ws RX7 TX7 2, w ∈ q_B := fun w h => q_B_in (uX7_t w h) (uX7_g w h)
theorem uX8_t : ∀ w ∈ u_ws RX8 TX8 10, w ∈ lw_tbl := by decide +kernel
theorem uX8_g : ∀ w ∈ u_ws RX8 TX8 10, goodWord w = true := by decide +kernel
theorem uX8 : ∀ w ∈ u_ws RX8 TX8 10, w ∈ q_B := fun w h => q_B_in (uX8_t w h) (uX8_g w h)
theorem uX9_t : ∀ w ∈ u_ws RX9 TX9 4, w ∈ lw_tbl := by decide +kernel
theorem uX9_g : ∀ w ∈ u_ws RX9 TX9 4, goodWord w = true := by decide +kernel
theorem uX9 : ∀ w ∈ u_ws RX9 TX9 4, w ∈ q_B := fun w h => q_B_in (uX9_t w h) (uX9_g w h)
theorem uX10_t : ∀ w ∈ u_ws RX10 TX10 4, w ∈ lw_tbl := by decide +kernel
theorem uX10_g : ∀ w ∈ u_ws RX10 TX10 4, goodWord w = true := by decide +kernel
theorem uX10 : ∀ w ∈ u_ws RX10 TX10 4, w ∈ q_B := fun w h => q_B_in (uX10_t w h) (uX10_g w h)
theorem uX11_t : ∀ w ∈ u_ws RX11 TX11 10, w ∈ lw_tbl := by decide +kernel
theorem uX11_g : ∀ w ∈ u_ws RX11 TX11 10, goodWord w = true := by decide +kernel
theorem uX11 : ∀ w ∈ u_ws RX11 TX11 10, w ∈ q_B := fun w h => q_B_in (uX11_t w h) (uX11_g w h)
theorem uX12_t : ∀ w ∈ u_ws RX12 TX12 25, w ∈ lw_tbl := by decide +kernel
theorem uX12_g : ∀ w ∈ u_ws RX12 TX12 25, goodWord w = true := by decide +kernel
theorem uX12 : ∀ w ∈ u_ws RX12 TX12 25, w ∈ q_B := fun w h => q_B_in (uX12_t w h) (uX12_g w h)
theorem fX8_59_6 : q_FL RX8 59 6 0 := ⟨RX6, TX6, 5, RX6, rfl, by decide, uX6, wd_95, Or.inl rfl⟩
theorem fX6_29_6 : q_FL RX6 29 6 0 := ⟨RX6, TX6, 5, RX6, rfl, by decide, uX6, wd_96, Or.inl rfl⟩
theorem pX6_29_6 : q_FP RX6 29 6 0 .int false := ⟨RX6, TX6, 5, RX6, tyX6, rfl, by decide, uX6, wd_96, Or.inl rfl, tyX6_ok, nmX6, rfl, by decide +kernel, fun h => by cases h⟩
theorem fX8_63_6 : q_FL RX8 63 6 1 := ⟨RX6, TX6, 5, RX6, rfl, by decide, uX6, wd_97, Or.inl rfl⟩
theorem fX6_33_6 : q_FL RX6 33 6 1 := ⟨RX6, TX6, 5, RX6, rfl, by decide, uX6, wd_98, Or.inl rfl⟩
theorem pX6_33_6 : q_FP RX6 33 6 1 .int false := ⟨RX6, TX6, 5, RX6, tyX6, rfl, by decide, uX6, wd_98, Or.inl rfl, tyX6_ok, nmX6, rfl, by decide +kernel, fun h => by cases h⟩
theorem fX8_70_6 : q_FL RX8 70 6 2 := ⟨RX6, TX6, 5, RX6, rfl, by decide, uX6, wd_99, Or.inl rfl⟩
theorem fX6_48_6 : q_FL RX6 48 6 2 := ⟨RX6, TX6, 5, RX6, rfl, by decide, uX6, wd_100, Or.inl rfl⟩
theorem pX6_48_6 : q_FP RX6 48 6 2 .int false := ⟨RX6, TX6, 5, RX6, tyX6, rfl, by decide, uX6, wd_100, Or.inl rfl, tyX6_ok, nmX6, rfl, by decide +kernel, fun h => by cases h⟩
theorem fX6_9_6 : q_FL RX6 9 6 3 := ⟨RX6, TX6, 5, RX6, rfl, by decide, uX6, wd_101, Or.inl rfl⟩
theorem pX6_9_6 : q_FP RX6 9 6 3 (.array .int) true := ⟨RX6, TX6, 5, RX6, tyX6, rfl, by decide, uX6, wd_101, Or.inl rfl, tyX6_ok, nmX6, rfl, by decide +kernel, fun _ => rfl⟩
theorem fX8_72_6 : q_FL RX8 72 6 3 := ⟨RX6, TX6, 5, RX6, rfl, by decide, uX6, wd_102, Or.inl rfl⟩
theorem fX6_15_6 : q_FL RX6 15 6 4 := ⟨RX6, TX6, 5, RX6, rfl, by decide, uX6, wd_103, Or.inl rfl⟩
theorem pX6_15_6 : q_FP RX6 15 6 4 (.array .int) true := ⟨RX6, TX6, 5, RX6, tyX6, rfl, by decide, uX6, wd_103, Or.inl rfl, tyX6_ok, nmX6, rfl, by decide +kernel, fun _ => rfl⟩
theorem fX8_79_6 : q_FL RX8 79 6 4 := ⟨RX6, TX6, 5, RX6, rfl, by decide, uX6, wd_104, Or.inl rfl⟩
theorem fX10_9_10 : q_FL RX10 9 10 0 := ⟨RX10, TX10, 4, RX10, rfl, by decide, uX10, wd_129, Or.inl rfl⟩
theorem pX10_9_10 : q_FP RX10 9 10 0 .int false := ⟨RX10, TX10, 4, RX10, tyX10, rfl, by decide, uX10, wd_129, Or.inl rfl, tyX10_ok, nmX10, rfl, by decide +kernel, fun h => by cases h⟩
theorem fX5_32_10 : q_FL RX5 32 10 0 := ⟨RX10, TX10, 4, RX10, rfl, by decide, uX10, wd_130, Or.inl rfl⟩
theorem fX4_15_10 : q_FL RX4 15 10 0 := ⟨RX10, TX10, 4, RX10, rfl, by decide, uX10, wd_131, Or.inl rfl⟩
theorem fX3_15_10 : q_FL RX3 15 10 0 := ⟨RX10, TX10, 4, RX10, rfl, by decide, uX10, wd_132, Or.inl rfl⟩
theorem fX1_25_10 : q_FL RX1 25 10 0 := ⟨RX10, TX10, 4, RX10, rfl, by decide, uX10, wd_133, Or.inl rfl⟩
theorem fX0_23_10 : q_FL RX0 23 10 0 := ⟨RX10, TX10, 4, RX10, rfl, by decide, uX10, wd_134, Or.inl rfl⟩
theorem fX11_228_10 : q_FL RX11 228 10 0 := ⟨RX10, TX10, 4, RX10, rfl, by decide, uX10, wd_135, Or.inl rfl⟩
theorem fX10_15_10 : q_FL RX10 15 10 1 := ⟨RX10, TX10, 4, RX10, rfl, by decide, uX10, wd_136, Or.inl rfl⟩
theorem pX10_15_10 : q_FP RX10 15 10 1 .int false := ⟨RX10, TX10, 4, RX10, tyX10, rfl, by decide, uX10, wd_136, Or.inl rfl, tyX10_ok, nmX10, rfl, by decide +kernel, fun h => by cases h⟩
theorem fX4_33_10 : q_FL RX4 33 10 1 := ⟨RX10, TX10, 4, RX10, rfl, by decide, uX10, wd_137, Or.inl rfl⟩
theorem fX11_221_10 : q_FL RX11 221 10 1 := ⟨RX10, TX10, 4, RX10, rfl, by decide, uX10, wd_138, Or.inl rfl⟩
theorem fX10_18_10 : q_FL RX10 18 10 2 := ⟨RX10, TX10, 4, RX10, rfl, by decide, uX10, wd_139, Or.inl rfl⟩
theorem pX10_18_10 : q_FP RX10 18 10 2 .int false := ⟨RX10, TX10, 4, RX10, tyX10, rfl, by decide, uX10, wd_139, Or.inl rfl, tyX10_ok, nmX10, rfl, by decide +kernel, fun h => by cases h⟩
theorem fX5_45_10 : q_FL RX5 45 10 2 := ⟨RX10, TX10, 4, RX10, rfl, by decide, uX10, wd_140, Or.inl rfl⟩
theorem fX8_144_10 : q_FL RX8 144 10 2 := ⟨RX10, TX10, 4, RX10, rfl, by decide, uX10, wd_141, Or.inl rfl⟩
theorem fX11_309_10 : q_FL RX11 309 10 2 := ⟨RX10, TX10, 4, RX10, rfl, by decide, uX10, wd_142, Or.inl rfl⟩
theorem fX10_21_10 : q_FL RX10 21 10 3 := ⟨RX10, TX10, 4, RX10, rfl, by decide, uX10, wd_143, Or.inl rfl⟩
theorem pX10_21_10 : q_FP RX10 21 10 3 (.array .int) true := ⟨RX10, TX10, 4, RX10, tyX10, rfl, by decide, uX10, wd_143, Or.inl rfl, tyX10_ok, nmX10, rfl, by decide +kernel, fun _ => rfl⟩
theorem fX9_21_9 : q_FL RX9 21 9 0 := ⟨RX9, TX9, 4, RX9, rfl, by decide, uX9, wd_159, Or.inl rfl⟩
theorem pX9_21_9 : q_FP RX9 21 9 0 .int false := ⟨RX9, TX9, 4, RX9, tyX9, rfl, by decide, uX9, wd_159, Or.inl rfl, tyX9_ok, nmX9, rfl, by decide +kernel, fun h => by cases h⟩
theorem fX8_85_9 : q_FL RX8 85 9 0 := ⟨RX9, TX9, 4, RX9, rfl, by decide, uX9, wd_160, Or.inl rfl⟩
theorem pX8_85_9 : q_FP RX8 85 9 0 .int false := ⟨RX9, TX9, 4, RX9, tyX9, rfl, by decide, uX9, wd_160, Or.inl rfl, tyX9_ok, nmX9, rfl, by decide +kernel, fun h => by cases h⟩
theorem fX11_114_9 : q_FL RX11 114 9 0 := ⟨RX9, TX9, 4, RX9, rfl, by decide, uX9, wd_161, Or.inl rfl⟩
theorem pX11_114_9 : q_FP RX11 114 9 0 .int false := ⟨RX9, TX9, 4, RX9, tyX9, rfl, by decide, uX9, wd_161, Or.inl rfl, tyX9_ok, nmX9, rfl, by decide +kernel, fun h => by cases h⟩
theorem fX9_9_9 : q_FL RX9 9 9 1 := ⟨RX9, TX9, 4, RX9, rfl, by decide, uX9, wd_162, Or.inl rfl⟩
theorem pX9_9_9 : q_FP RX9 9 9 1 (.array .int) true := ⟨RX9, TX9, 4, RX9, tyX9, rfl, by decide, uX9, wd_162, Or.inl rfl, tyX9_ok, nmX9, rfl, by decide +kernel, fun _ => rfl⟩
theorem fX8_116_9 : q_FL RX8 116 9 1 := ⟨RX9, TX9, 4, RX9, rfl, by decide, uX9, wd_163, Or.inl rfl⟩
theorem fX9_15_9 : q_FL RX9 15 9 2 := ⟨RX9, TX9, 4, RX9, rfl, by decide, uX9, wd_164, Or.inl rfl⟩
theorem pX9_15_9 : q_FP RX9 15 9 2 (.array .int) true := ⟨RX9, TX9, 4, RX9, tyX9, rfl, by decide, uX9, wd_164, Or.inl rfl, tyX9_ok, nmX9, rfl, by decide +kernel, fun _ => rfl⟩
theorem fX8_131_9 : q_FL RX8 131 9 2 := ⟨RX9, TX9, 4, RX9, rfl, by decide, uX9, wd_165, Or.inl rfl⟩
theorem fX9_18_9 : q_FL RX9 18 9 3 := ⟨RX9, TX9, 4, RX9, rfl, by decide, uX9, wd_166, Or.inl rfl⟩
theorem pX9_18_9 : q_FP RX9 18 9 3 (.array .int) true := ⟨RX9, TX9, 4, RX9, tyX9, rfl, by decide, uX9, wd_166, Or.inl rfl, tyX9_ok, nmX9, rfl, by decide +kernel, fun _ => rfl⟩
theorem fX8_133_9 : q_FL RX8 133 9 3 := ⟨RX9, TX9, 4, RX9, rfl, by decide, uX9, wd_167, Or.inl rfl⟩
theorem fX8_9_8 : q_FL RX8 9 8 0 := ⟨RX8, TX8, 10, RX8, rfl, by decide, uX8, wd_181, Or.inl rfl⟩
theorem pX8_9_8 : q_FP RX8 9 8 0 .int false := ⟨RX8, TX8, 10, RX8, tyX8, rfl, by decide, uX8, wd_181, Or.inl rfl, tyX8_ok, nmX8, rfl, by decide +kernel, fun h => by cases h⟩
theorem fX11_115_8 : q_FL RX11 115 8 0 := ⟨RX8, TX8, 10, RX8, rfl, by decide, uX8, wd_182, Or.inl rfl⟩
theorem fX8_18_8 : q_FL RX8 18 8 1 := ⟨RX8, TX8, 10, RX8, rfl, by decide, uX8, wd_183, Or.inl rfl⟩
theorem pX8_18_8 : q_FP RX8 18 8 1 (.object "TurnedLock$Wheels") true := ⟨RX8, TX8, 10, RX8, tyX8, rfl, by decide, uX8, wd_183, Or.inl rfl, tyX8_ok, nmX8, rfl, by decide +kernel, fun _ => rfl⟩
theorem fX11_165_8 : q_FL RX11 165 8 1 := ⟨RX8, TX8, 10, RX8, rfl, by decide, uX8, wd_184, Or.inl rfl⟩
theorem fX8_27_8 : q_FL RX8 27 8 2 := ⟨RX8, TX8, 10, RX8, rfl, by decide, uX8, wd_185, Or.inl rfl⟩
theorem pX8_27_8 : q_FP RX8 27 8 2 (.object "TurnedLock$Story") true := ⟨RX8, TX8, 10, RX8, tyX8, rfl, by decide, uX8, wd_185, Or.inl rfl, tyX8_ok, nmX8, rfl, by decide +kernel, fun _ => rfl⟩
theorem fX11_152_8 : q_FL RX11 152 8 2 := ⟨RX8, TX8, 10, RX8, rfl, by decide, uX8, wd_186, Or.inl rfl⟩
theorem fX8_31_8 : q_FL RX8 31 8 3 := ⟨RX8, TX8, 10, RX8, rfl, by decide, uX8, wd_187, Or.inl rfl⟩
theorem pX8_31_8 : q_FP RX8 31 8 3 (.array .long) true := ⟨RX8, TX8, 10, RX8, tyX8, rfl, by decide, uX8, wd_187, Or.inl rfl, tyX8_ok, nmX8, rfl, by decide +kernel, fun _ => rfl⟩
theorem fX11_198_8 : q_FL RX11 198 8 3 := ⟨RX8, TX8, 10, RX8, rfl, by decide, uX8, wd_188, Or.inl rfl⟩
theorem fX8_35_8 : q_FL RX8 35 8 4 := ⟨RX8, TX8, 10, RX8, rfl, by decide, uX8, wd_189, Or.inl rfl⟩
theorem pX8_35_8 : q_FP RX8 35 8 4 (.array .long) true := ⟨RX8, TX8, 10, RX8, tyX8, rfl, by decide, uX8, wd_189, Or.inl rfl, tyX8_ok, nmX8, rfl, by decide +kernel, fun _ => rfl⟩
theorem fX11_271_8 : q_FL RX11 271 8 4 := ⟨RX8, TX8, 10, RX8, rfl, by decide, uX8, wd_190, Or.inl rfl⟩
theorem fX8_38_8 : q_FL RX8 38 8 5 := ⟨RX8, TX8, 10, RX8, rfl, by decide, uX8, wd_191, Or.inl rfl⟩
theorem pX8_38_8 : q_FP RX8 38 8 5 (.array .int) true := ⟨RX8, TX8, 10, RX8, tyX8, rfl, by decide, uX8, wd_191, Or.inl rfl, tyX8_ok, nmX8, rfl, by decide +kernel, fun _ => rfl⟩
theorem fX11_243_8 : q_FL RX11 243 8 5 := ⟨RX8, TX8, 10, RX8, rfl, by decide, uX8, wd_192, Or.inl rfl⟩
theorem fX8_42_8 : q_FL RX8 42 8 6 := ⟨RX8, TX8, 10, RX8, rfl, by decide, uX8, wd_193, Or.inl rfl⟩
theorem pX8_42_8 : q_FP RX8 42 8 6 (.array .long) true := ⟨RX8, TX8, 10, RX8, tyX8, rfl, by decide, uX8, wd_193, Or.inl rfl, tyX8_ok, nmX8, rfl, by decide +kernel, fun _ => rfl⟩
theorem fX8_47_8 : q_FL RX8 47 8 7 := ⟨RX8, TX8, 10, RX8, rfl, by decide, uX8, wd_194, Or.inl rfl⟩
theorem pX8_47_8 : q_FP RX8 47 8 7 (.array (.object "TurnedLock$Person")) true := ⟨RX8, TX8, 10, RX8, tyX8, rfl, by decide, uX8, wd_194, Or.inl rfl, tyX8_ok, nmX8, rfl, by decide +kernel, fun _ => rfl⟩
theorem fX8_53_8 : q_FL RX8 53 8 8 := ⟨RX8, TX8, 10, RX8, rfl, by decide, uX8, wd_195, Or.inl rfl⟩
theorem pX8_53_8 : q_FP RX8 53 8 8 (.array (.array .int)) true := ⟨RX8, TX8, 10, RX8, tyX8, rfl, by decide, uX8, wd_195, Or.inl rfl, tyX8_ok, nmX8, rfl, by decide +kernel, fun _ => rfl⟩
theorem fX8_56_8 : q_FL RX8 56 8 9 := ⟨RX8, TX8, 10, RX8, rfl, by decide, uX8, wd_196, Or.inl rfl⟩
theorem pX8_56_8 : q_FP RX8 56 8 9 (.array (.array .int)) true := ⟨RX8, TX8, 10, RX8, tyX8, rfl, by decide, uX8, wd_196, Or.inl rfl, tyX8_ok, nmX8, rfl, by decide +kernel, fun _ => rfl⟩
theorem fX7_21_7 : q_FL RX7 21 7 0 := ⟨RX7, TX7, 2, RX7, rfl, by decide, uX7, wd_227, Or.inl rfl⟩
theorem pX7_21_7 : q_FP RX7 21 7 0 (.array .int) true := ⟨RX7, TX7, 2, RX7, tyX7, rfl, by decide, uX7, wd_227, Or.inl rfl, tyX7_ok, nmX7, rfl, by decide +kernel, fun _ => rfl⟩
theorem fX11_72_7 : q_FL RX11 72 7 0 := ⟨RX7, TX7, 2, RX7, rfl, by decide, uX7, wd_228, Or.inl rfl⟩
theorem fX6_55_7 : q_FL RX6 55 7 0 := ⟨RX7, TX7, 2, RX7, rfl, by decide, uX7, wd_229, Or.inl rfl⟩
theorem fX8_220_7 : q_FL RX8 220 7 0 := ⟨RX7, TX7, 2, RX7, rfl, by decide, uX7, wd_230, Or.inl rfl⟩
theorem fX7_9_7 : q_FL RX7 9 7 1 := ⟨RX7, TX7, 2, RX7, rfl, by decide, uX7, wd_231, Or.inl rfl⟩
theorem pX7_9_7 : q_FP RX7 9 7 1 .int false := ⟨RX7, TX7, 2, RX7, tyX7, rfl, by decide, uX7, wd_231, Or.inl rfl, tyX7_ok, nmX7, rfl, by decide +kernel, fun h => by cases h⟩
theorem fX6_39_7 : q_FL RX6 39 7 1 := ⟨RX7, TX7, 2, RX7, rfl, by decide, uX7, wd_232, Or.inl rfl⟩
theorem fX11_82_7 : q_FL RX11 82 7 1 := ⟨RX7, TX7, 2, RX7, rfl, by decide, uX7, wd_233, Or.inl rfl⟩
theorem pX11_82_7 : q_FP RX11 82 7 1 .int false := ⟨RX7, TX7, 2, RX7, tyX7, rfl, by decide, uX7, wd_233, Or.inl rfl, tyX7_ok, nmX7, rfl, by decide +kernel, fun h => by cases h⟩
theorem fX8_217_7 : q_FL RX8 217 7 1 := ⟨RX7, TX7, 2, RX7, rfl, by decide, uX7, wd_234, Or.inl rfl⟩
theorem fX11_11_11 : q_FL RX11 11 11 0 := ⟨RX11, TX11, 10, RX11, rfl, by decide, uX11, wd_241, Or.inl rfl⟩
theorem pX11_11_11 : q_FP RX11 11 11 0 (.array (.object "TurnedLock$Row")) true := ⟨RX11, TX11, 10, RX11, tyX11, rfl, by decide, uX11, wd_241, Or.inl rfl, tyX11_ok, nmX11, rfl, by decide +kernel, fun _ => rfl⟩
theorem fX11_15_11 : q_FL RX11 15 11 1 := ⟨RX11, TX11, 10, RX11, rfl, by decide, uX11, wd_242, Or.inl rfl⟩
theorem pX11_15_11 : q_FP RX11 15 11 1 (.array (.object "TurnedLock$Row")) true := ⟨RX11, TX11, 10, RX11, tyX11, rfl, by decide, uX11, wd_242, Or.inl rfl, tyX11_ok, nmX11, rfl, by decide +kernel, fun _ => rfl⟩
theorem fX11_20_11 : q_FL RX11 20 11 2 := ⟨RX11, TX11, 10, RX11, rfl, by decide, uX11, wd_243, Or.inl rfl⟩
theorem pX11_20_11 : q_FP RX11 20 11 2 (.array (.object "TurnedLock$Story")) true := ⟨RX11, TX11, 10, RX11, tyX11, rfl, by decide, uX11, wd_243, Or.inl rfl, tyX11_ok, nmX11, rfl, by decide +kernel, fun _ => rfl⟩
theorem fX11_27_11 : q_FL RX11 27 11 3 := ⟨RX11, TX11, 10, RX11, rfl, by decide, uX11, wd_244, Or.inl rfl⟩
theorem pX11_27_11 : q_FP RX11 27 11 3 (.object "TurnedLock$Reader") true := ⟨RX11, TX11, 10, RX11, tyX11, rfl, by decide, uX11, wd_244, Or.inl rfl, tyX11_ok, nmX11, rfl, by decide +kernel, fun _ => rfl⟩
theorem fX11_34_11 : q_FL RX11 34 11 4 := ⟨RX11, TX11, 10, RX11, rfl, by decide, uX11, wd_245, Or.inl rfl⟩
theorem pX11_34_11 : q_FP RX11 34 11 4 (.object "TurnedLock$Shed") true := ⟨RX11, TX11, 10, RX11, tyX11, rfl, by decide, uX11, wd_245, Or.inl rfl, tyX11_ok, nmX11, rfl, by decide +kernel, fun _ => rfl⟩
theorem fX11_38_11 : q_FL RX11 38 11 5 := ⟨RX11, TX11, 10, RX11, rfl, by decide, uX11, wd_246, Or.inl rfl⟩
theorem pX11_38_11 : q_FP RX11 38 11 5 (.array .int) true := ⟨RX11, TX11, 10, RX11, tyX11, rfl, by decide, uX11, wd_246, Or.inl rfl, tyX11_ok, nmX11, rfl, by decide +kernel, fun _ => rfl⟩
theorem fX11_42_11 : q_FL RX11 42 11 6 := ⟨RX11, TX11, 10, RX11, rfl, by decide, uX11, wd_247, Or.inl rfl⟩
theorem pX11_42_11 : q_FP RX11 42 11 6 .int false := ⟨RX11, TX11, 10, RX11, tyX11, rfl, by decide, uX11, wd_247, Or.inl rfl, tyX11_ok, nmX11, rfl, by decide +kernel, fun h => by cases h⟩
theorem fX11_46_11 : q_FL RX11 46 11 7 := ⟨RX11, TX11, 10, RX11, rfl, by decide, uX11, wd_248, Or.inl rfl⟩
theorem pX11_46_11 : q_FP RX11 46 11 7 .int false := ⟨RX11, TX11, 10, RX11, tyX11, rfl, by decide, uX11, wd_248, Or.inl rfl, tyX11_ok, nmX11, rfl, by decide +kernel, fun h => by cases h⟩
theorem fX11_49_11 : q_FL RX11 49 11 8 := ⟨RX11, TX11, 10, RX11, rfl, by decide, uX11, wd_249, Or.inl rfl⟩
theorem pX11_49_11 : q_FP RX11 49 11 8 .long false := ⟨RX11, TX11, 10, RX11, tyX11, rfl, by decide, uX11, wd_249, Or.inl rfl, tyX11_ok, nmX11, rfl, by decide +kernel, fun h => by cases h⟩
theorem fX11_53_11 : q_FL RX11 53 11 9 := ⟨RX11, TX11, 10, RX11, rfl, by decide, uX11, wd_250, Or.inl rfl⟩
theorem pX11_53_11 : q_FP RX11 53 11 9 .long false := ⟨RX11, TX11, 10, RX11, tyX11, rfl, by decide, uX11, wd_250, Or.inl rfl, tyX11_ok, nmX11, rfl, by decide +kernel, fun h => by cases h⟩
theorem fX5_21_0 : q_FL RX5 21 0 0 := ⟨RX0, TX0, 6, RX5, rfl, by decide, uX0, wd_404, Or.inl rfl⟩
theorem pX5_21_0 : q_FP RX5 21 0 0 (.object "TurnedLock$Wheels") true := ⟨RX0, TX0, 6, RX5, tyX0, rfl, by decide, uX0, wd_404, Or.inl rfl, tyX0_ok, nmX0, rfl, by decide +kernel, fun _ => rfl⟩
theorem fX5_21_1 : q_FL RX5 21 1 0 := ⟨RX1, TX1, 6, RX5, rfl, by decide, uX1, wd_404, Or.inl rfl⟩
theorem pX5_21_1 : q_FP RX5 21 1 0 (.object "TurnedLock$Wheels") true := ⟨RX1, TX1, 6, RX5, tyX1, rfl, by decide, uX1, wd_404, Or.inl rfl, tyX1_ok, nmX1, rfl, by decide +kernel, fun _ => rfl⟩
theorem fX5_21_2 : q_FL RX5 21 2 0 := ⟨RX2, TX2, 6, RX5, rfl, by decide, uX2, wd_404, Or.inl rfl⟩
theorem pX5_21_2 : q_FP RX5 21 2 0 (.object "TurnedLock$Wheels") true := ⟨RX2, TX2, 6, RX5, tyX2, rfl, by decide, uX2, wd_404, Or.inl rfl, tyX2_ok, nmX2, rfl, by decide +kernel, fun _ => rfl⟩
theorem fX5_21_3 : q_FL RX5 21 3 0 := ⟨RX3, TX3, 6, RX5, rfl, by decide, uX3, wd_404, Or.inl rfl⟩
theorem pX5_21_3 : q_FP RX5 21 3 0 (.object "TurnedLock$Wheels") true := ⟨RX3, TX3, 6, RX5, tyX3, rfl, by decide, uX3, wd_404, Or.inl rfl, tyX3_ok, nmX3, rfl, by decide +kernel, fun _ => rfl⟩
theorem fX5_21_4 : q_FL RX5 21 4 0 := ⟨RX4, TX4, 6, RX5, rfl, by decide, uX4, wd_404, Or.inl rfl⟩
theorem pX5_21_4 : q_FP RX5 21 4 0 (.object "TurnedLock$Wheels") true := ⟨RX4, TX4, 6, RX5, tyX4, rfl, by decide, uX4, wd_404, Or.inl rfl, tyX4_ok, nmX4, rfl, by decide +kernel, fun _ => rfl⟩
theorem fX5_21_5 : q_FL RX5 21 5 0 := ⟨RX5, TX5, 6, RX5, rfl, by decide, uX5, wd_404, Or.inl rfl⟩
theorem pX5_21_5 : q_FP RX5 21 5 0 (.object "TurnedLock$Wheels") true := ⟨RX5, TX5, 6, RX5, tyX5, rfl, by decide, uX5, wd_404, Or.inl rfl, tyX5_ok, nmX5, rfl, by decide +kernel, fun _ => rfl⟩
theorem fX1_9_0 : q_FL RX1 9 0 0 := ⟨RX0, TX0, 6, RX1, rfl, by decide, uX0, wd_405, Or.inr wd_406⟩
theorem fX1_9_1 : q_FL RX1 9 1 0 := ⟨RX1, TX1, 6, RX1, rfl, by decide, uX1, wd_405, Or.inr wd_406⟩
theorem fX4_9_3 : q_FL RX4 9 3 0 := ⟨RX3, TX3, 6, RX4, rfl, by decide, uX3, wd_407, Or.inr wd_408⟩
theorem fX4_9_4 : q_FL RX4 9 4 0 := ⟨RX4, TX4, 6, RX4, rfl, by decide, uX4, wd_407, Or.inr wd_408⟩
theorem fX3_9_3 : q_FL RX3 9 3 0 := ⟨RX3, TX3, 6, RX3, rfl, by decide, uX3, wd_409, Or.inr wd_410⟩
theorem fX0_19_0 : q_FL RX0 19 0 0 := ⟨RX0, TX0, 6, RX0, rfl, by decide, uX0, wd_411, Or.inr wd_412⟩
theorem fX5_25_0 : q_FL RX5 25 0 1 := ⟨RX0, TX0, 6, RX5, rfl, by decide, uX0, wd_413, Or.inl rfl⟩
theorem pX5_25_0 : q_FP RX5 25 0 1 (.array .int) true := ⟨RX0, TX0, 6, RX5, tyX0, rfl, by decide, uX0, wd_413, Or.inl rfl, tyX0_ok, nmX0, rfl, by decide +kernel, fun _ => rfl⟩
theorem fX5_25_1 : q_FL RX5 25 1 1 := ⟨RX1, TX1, 6, RX5, rfl, by decide, uX1, wd_413, Or.inl rfl⟩
theorem pX5_25_1 : q_FP RX5 25 1 1 (.array .int) true := ⟨RX1, TX1, 6, RX5, tyX1, rfl, by decide, uX1, wd_413, Or.inl rfl, tyX1_ok, nmX1, rfl, by decide +kernel, fun _ => rfl⟩
theorem fX5_25_2 : q_FL RX5 25 2 1 := ⟨RX2, TX2, 6, RX5, rfl, by decide, uX2, wd_413, Or.inl rfl⟩
theorem pX5_25_2 : q_FP RX5 25 2 1 (.array .int) true := ⟨RX2, TX2, 6, RX5, tyX2, rfl, by decide, uX2, wd_413, Or.inl rfl, tyX2_ok, nmX2, rfl, by decide +kernel, fun _ => rfl⟩
theorem fX5_25_3 : q_FL RX5 25 3 1 := ⟨RX3, TX3, 6, RX5, rfl, by decide, uX3, wd_413, Or.inl rfl⟩
theorem pX5_25_3 : q_FP RX5 25 3 1 (.array .int) true := ⟨RX3, TX3, 6, RX5, tyX3, rfl, by decide, uX3, wd_413, Or.inl rfl, tyX3_ok, nmX3, rfl, by decide +kernel, fun _ => rfl⟩
theorem fX5_25_4 : q_FL RX5 25 4 1 := ⟨RX4, TX4, 6, RX5, rfl, by decide, uX4, wd_413, Or.inl rfl⟩
theorem pX5_25_4 : q_FP RX5 25 4 1 (.array .int) true := ⟨RX4, TX4, 6, RX5, tyX4, rfl, by decide, uX4, wd_413, Or.inl rfl, tyX4_ok, nmX4, rfl, by decide +kernel, fun _ => rfl⟩
theorem fX5_25_5 : q_FL RX5 25 5 1 := ⟨RX5, TX5, 6, RX5, rfl, by decide, uX5, wd_413, Or.inl rfl⟩
theorem pX5_25_5 : q_FP RX5 25 5 1 (.array .int) true := ⟨RX5, TX5, 6, RX5, tyX5, rfl, by decide, uX5, wd_413, Or.inl rfl, tyX5_ok, nmX5, rfl, by decide +kernel, fun _ => rfl⟩
theorem fX0_28_0 : q_FL RX0 28 0 1 := ⟨RX0, TX0, 6, RX0, rfl, by decide, uX0, wd_414, Or.inr wd_415⟩
theorem fX1_39_0 : q_FL RX1 39 0 1 := ⟨RX0, TX0, 6, RX1, rfl, by decide, uX0, wd_416, Or.inr wd_417⟩
theorem fX1_39_1 : q_FL RX1 39 1 1 := ⟨RX1, TX1, 6, RX1, rfl, by decide, uX1, wd_416, Or.inr wd_417⟩
theorem fX8_196_0 : q_FL RX8 196 0 1 := ⟨RX0, TX0, 6, RX5, rfl, by decide, uX0, wd_418, Or.inl rfl⟩
theorem fX8_196_1 : q_FL RX8 196 1 1 := ⟨RX1, TX1, 6, RX5, rfl, by decide, uX1, wd_418, Or.inl rfl⟩
theorem fX8_196_2 : q_FL RX8 196 2 1 := ⟨RX2, TX2, 6, RX5, rfl, by decide, uX2, wd_418, Or.inl rfl⟩
theorem fX8_196_3 : q_FL RX8 196 3 1 := ⟨RX3, TX3, 6, RX5, rfl, by decide, uX3, wd_418, Or.inl rfl⟩
theorem fX8_196_4 : q_FL RX8 196 4 1 := ⟨RX4, TX4, 6, RX5, rfl, by decide, uX4, wd_418, Or.inl rfl⟩
theorem fX8_196_5 : q_FL RX8 196 5 1 := ⟨RX5, TX5, 6, RX5, rfl, by decide, uX5, wd_418, Or.inl rfl⟩
theorem fX5_29_0 : q_FL RX5 29 0 2 := ⟨RX0, TX0, 6, RX5, rfl, by decide, uX0, wd_419, Or.inl rfl⟩
theorem pX5_29_0 : q_FP RX5 29 0 2 (.array .int) true := ⟨RX0, TX0, 6, RX5, tyX0, rfl, by decide, uX0, wd_419, Or.inl rfl, tyX0_ok, nmX0, rfl, by decide +kernel, fun _ => rfl⟩
theorem fX5_29_1 : q_FL RX5 29 1 2 := ⟨RX1, TX1, 6, RX5, rfl, by decide, uX1, wd_419, Or.inl rfl⟩
theorem pX5_29_1 : q_FP RX5 29 1 2 (.array .int) true := ⟨RX1, TX1, 6, RX5, tyX1, rfl, by decide, uX1, wd_419, Or.inl rfl, tyX1_ok, nmX1, rfl, by decide +kernel, fun _ => rfl⟩
theorem fX5_29_2 : q_FL RX5 29 2 2 := ⟨RX2, TX2, 6, RX5, rfl, by decide, uX2, wd_419, Or.inl rfl⟩
theorem pX5_29_2 : q_FP RX5 29 2 2 (.array .int) true := ⟨RX2, TX2, 6, RX5, tyX2, rfl, by decide, uX2, wd_419, Or.inl rfl, tyX2_ok, nmX2, rfl, by decide +kernel, fun _ => rfl⟩
theorem fX5_29_3 : q_FL RX5 29 3 2 := ⟨RX3, TX3, 6, RX5, rfl, by decide, uX3, wd_419, Or.inl rfl⟩
theorem pX5_29_3 : q_FP RX5 29 3 2 (.array .int) true := ⟨RX3, TX3, 6, RX5, tyX3, rfl, by decide, uX3, wd_419, Or.inl rfl, tyX3_ok, nmX3, rfl, by decide +kernel, fun _ => rfl⟩
theorem fX5_29_4 : q_FL RX5 29 4 2 := ⟨RX4, TX4, 6, RX5, rfl, by decide, uX4, wd_419, Or.inl rfl⟩
theorem pX5_29_4 : q_FP RX5 29 4 2 (.array .int) true := ⟨RX4, TX4, 6, RX5, tyX4, rfl, by decide, uX4, wd_419, Or.inl rfl, tyX4_ok, nmX4, rfl, by decide +kernel, fun _ => rfl⟩
theorem fX5_29_5 : q_FL RX5 29 5 2 := ⟨RX5, TX5, 6, RX5, rfl, by decide, uX5, wd_419, Or.inl rfl⟩
theorem pX5_29_5 : q_FP RX5 29 5 2 (.array .int) true := ⟨RX5, TX5, 6, RX5, tyX5, rfl, by decide, uX5, wd_419, Or.inl rfl, tyX5_ok, nmX5, rfl, by decide +kernel, fun _ => rfl⟩
theorem fX5_9_0 : q_FL RX5 9 0 3 := ⟨RX0, TX0, 6, RX5, rfl, by decide, uX0, wd_420, Or.inl rfl⟩
theorem pX5_9_0 : q_FP RX5 9 0 3 .int false := ⟨RX0, TX0, 6, RX5, tyX0, rfl, by decide, uX0, wd_420, Or.inl rfl, tyX0_ok, nmX0, rfl, by decide +kernel, fun h => by cases h⟩
theorem fX5_9_1 : q_FL RX5 9 1 3 := ⟨RX1, TX1, 6, RX5, rfl, by decide, uX1, wd_420, Or.inl rfl⟩
theorem pX5_9_1 : q_FP RX5 9 1 3 .int false := ⟨RX1, TX1, 6, RX5, tyX1, rfl, by decide, uX1, wd_420, Or.inl rfl, tyX1_ok, nmX1, rfl, by decide +kernel, fun h => by cases h⟩
theorem fX5_9_2 : q_FL RX5 9 2 3 := ⟨RX2, TX2, 6, RX5, rfl, by decide, uX2, wd_420, Or.inl rfl⟩
theorem pX5_9_2 : q_FP RX5 9 2 3 .int false := ⟨RX2, TX2, 6, RX5, tyX2, rfl, by decide, uX2, wd_420, Or.inl rfl, tyX2_ok, nmX2, rfl, by decide +kernel, fun h => by cases h⟩
theorem fX5_9_3 : q_FL RX5 9 3 3 := ⟨RX3, TX3, 6, RX5, rfl, by decide, uX3, wd_420, Or.inl rfl⟩
theorem pX5_9_3 : q_FP RX5 9 3 3 .int false := ⟨RX3, TX3, 6, RX5, tyX3, rfl, by decide, uX3, wd_420, Or.inl rfl, tyX3_ok, nmX3, rfl, by decide +kernel, fun h => by cases h⟩
theorem fX5_9_4 : q_FL RX5 9 4 3 := ⟨RX4, TX4, 6, RX5, rfl, by decide, uX4, wd_420, Or.inl rfl⟩
theorem pX5_9_4 : q_FP RX5 9 4 3 .int false := ⟨RX4, TX4, 6, RX5, tyX4, rfl, by decide, uX4, wd_420, Or.inl rfl, tyX4_ok, nmX4, rfl, by decide +kernel, fun h => by cases h⟩
theorem fX5_9_5 : q_FL RX5 9 5 3 := ⟨RX5, TX5, 6, RX5, rfl, by decide, uX5, wd_420, Or.inl rfl⟩
theorem pX5_9_5 : q_FP RX5 9 5 3 .int false := ⟨RX5, TX5, 6, RX5, tyX5, rfl, by decide, uX5, wd_420, Or.inl rfl, tyX5_ok, nmX5, rfl, by decide +kernel, fun h => by cases h⟩
theorem fX0_15_0 : q_FL RX0 15 0 3 := ⟨RX0, TX0, 6, RX0, rfl, by decide, uX0, wd_421, Or.inr wd_422⟩
theorem fX4_39_3 : q_FL RX4 39 3 3 := ⟨RX3, TX3, 6, RX4, rfl, by decide, uX3, wd_423, Or.inr wd_424⟩
theorem fX4_39_4 : q_FL RX4 39 4 3 := ⟨RX4, TX4, 6, RX4, rfl, by decide, uX4, wd_423, Or.inr wd_424⟩
theorem fX1_36_0 : q_FL RX1 36 0 3 := ⟨RX0, TX0, 6, RX1, rfl, by decide, uX0, wd_425, Or.inr wd_426⟩
theorem fX1_36_1 : q_FL RX1 36 1 3 := ⟨RX1, TX1, 6, RX1, rfl, by decide, uX1, wd_425, Or.inr wd_426⟩
theorem fX8_193_0 : q_FL RX8 193 0 3 := ⟨RX0, TX0, 6, RX5, rfl, by decide, uX0, wd_427, Or.inl rfl⟩
theorem fX8_193_1 : q_FL RX8 193 1 3 := ⟨RX1, TX1, 6, RX5, rfl, by decide, uX1, wd_427, Or.inl rfl⟩
theorem fX8_193_2 : q_FL RX8 193 2 3 := ⟨RX2, TX2, 6, RX5, rfl, by decide, uX2, wd_427, Or.inl rfl⟩
theorem fX8_193_3 : q_FL RX8 193 3 3 := ⟨RX3, TX3, 6, RX5, rfl, by decide, uX3, wd_427, Or.inl rfl⟩
theorem fX8_193_4 : q_FL RX8 193 4 3 := ⟨RX4, TX4, 6, RX5, rfl, by decide, uX4, wd_427, Or.inl rfl⟩
theorem fX8_193_5 : q_FL RX8 193 5 3 := ⟨RX5, TX5, 6, RX5, rfl, by decide, uX5, wd_427, Or.inl rfl⟩
theorem fX5_15_0 : q_FL RX5 15 0 4 := ⟨RX0, TX0, 6, RX5, rfl, by decide, uX0, wd_428, Or.inl rfl⟩
theorem pX5_15_0 : q_FP RX5 15 0 4 .int false := ⟨RX0, TX0, 6, RX5, tyX0, rfl, by decide, uX0, wd_428, Or.inl rfl, tyX0_ok, nmX0, rfl, by decide +kernel, fun h => by cases h⟩
theorem fX5_15_1 : q_FL RX5 15 1 4 := ⟨RX1, TX1, 6, RX5, rfl, by decide, uX1, wd_428, Or.inl rfl⟩
theorem pX5_15_1 : q_FP RX5 15 1 4 .int false := ⟨RX1, TX1, 6, RX5, tyX1, rfl, by decide, uX1, wd_428, Or.inl rfl, tyX1_ok, nmX1, rfl, by decide +kernel, fun h => by cases h⟩
theorem fX5_15_2 : q_FL RX5 15 2 4 := ⟨RX2, TX2, 6, RX5, rfl, by decide, uX2, wd_428, Or.inl rfl⟩
theorem pX5_15_2 : q_FP RX5 15 2 4 .int false := ⟨RX2, TX2, 6, RX5, tyX2, rfl, by decide, uX2, wd_428, Or.inl rfl, tyX2_ok, nmX2, rfl, by decide +kernel, fun h => by cases h⟩
theorem fX5_15_3 : q_FL RX5 15 3 4 := ⟨RX3, TX3, 6, RX5, rfl, by decide, uX3, wd_428, Or.inl rfl⟩
theorem pX5_15_3 : q_FP RX5 15 3 4 .int false := ⟨RX3, TX3, 6, RX5, tyX3, rfl, by decide, uX3, wd_428, Or.inl rfl, tyX3_ok, nmX3, rfl, by decide +kernel, fun h => by cases h⟩
theorem fX5_15_4 : q_FL RX5 15 4 4 := ⟨RX4, TX4, 6, RX5, rfl, by decide, uX4, wd_428, Or.inl rfl⟩
theorem pX5_15_4 : q_FP RX5 15 4 4 .int false := ⟨RX4, TX4, 6, RX5, tyX4, rfl, by decide, uX4, wd_428, Or.inl rfl, tyX4_ok, nmX4, rfl, by decide +kernel, fun h => by cases h⟩
theorem fX5_15_5 : q_FL RX5 15 5 4 := ⟨RX5, TX5, 6, RX5, rfl, by decide, uX5, wd_428, Or.inl rfl⟩
theorem pX5_15_5 : q_FP RX5 15 5 4 .int false := ⟨RX5, TX5, 6, RX5, tyX5, rfl, by decide, uX5, wd_428, Or.inl rfl, tyX5_ok, nmX5, rfl, by decide +kernel, fun h => by cases h⟩
theorem fX11_257_0 : q_FL RX11 257 0 4 := ⟨RX0, TX0, 6, RX5, rfl, by decide, uX0, wd_429, Or.inl rfl⟩
theorem fX11_257_1 : q_FL RX11 257 1 4 := ⟨RX1, TX1, 6, RX5, rfl, by decide, uX1, wd_429, Or.inl rfl⟩
theorem fX11_257_2 : q_FL RX11 257 2 4 := ⟨RX2, TX2, 6, RX5, rfl, by decide, uX2, wd_429, Or.inl rfl⟩
theorem fX11_257_3 : q_FL RX11 257 3 4 := ⟨RX3, TX3, 6, RX5, rfl, by decide, uX3, wd_429, Or.inl rfl⟩
theorem fX11_257_4 : q_FL RX11 257 4 4 := ⟨RX4, TX4, 6, RX5, rfl, by decide, uX4, wd_429, Or.inl rfl⟩
theorem fX11_257_5 : q_FL RX11 257 5 4 := ⟨RX5, TX5, 6, RX5, rfl, by decide, uX5, wd_429, Or.inl rfl⟩
theorem fX8_214_0 : q_FL RX8 214 0 4 := ⟨RX0, TX0, 6, RX5, rfl, by decide, uX0, wd_430, Or.inl rfl⟩
theorem fX8_214_1 : q_FL RX8 214 1 4 := ⟨RX1, TX1, 6, RX5, rfl, by decide, uX1, wd_430, Or.inl rfl⟩
theorem fX8_214_2 : q_FL RX8 214 2 4 := ⟨RX2, TX2, 6, RX5, rfl, by decide, uX2, wd_430, Or.inl rfl⟩
theorem fX8_214_3 : q_FL RX8 214 3 4 := ⟨RX3, TX3, 6, RX5, rfl, by decide, uX3, wd_430, Or.inl rfl⟩
theorem fX8_214_4 : q_FL RX8 214 4 4 := ⟨RX4, TX4, 6, RX5, rfl, by decide, uX4, wd_430, Or.inl rfl⟩
theorem fX8_214_5 : q_FL RX8 214 5 4 := ⟨RX5, TX5, 6, RX5, rfl, by decide, uX5, wd_430, Or.inl rfl⟩
theorem fX5_18_0 : q_FL RX5 18 0 5 := ⟨RX0, TX0, 6, RX5, rfl, by decide, uX0, wd_431, Or.inl rfl⟩
theorem pX5_18_0 : q_FP RX5 18 0 5 .int false := ⟨RX0, TX0, 6, RX5, tyX0, rfl, by decide, uX0, wd_431, Or.inl rfl, tyX0_ok, nmX0, rfl, by decide +kernel, fun h => by cases h⟩
theorem fX5_18_1 : q_FL RX5 18 1 5 := ⟨RX1, TX1, 6, RX5, rfl, by decide, uX1, wd_431, Or.inl rfl⟩
theorem pX5_18_1 : q_FP RX5 18 1 5 .int false := ⟨RX1, TX1, 6, RX5, tyX1, rfl, by decide, uX1, wd_431, Or.inl rfl, tyX1_ok, nmX1, rfl, by decide +kernel, fun h => by cases h⟩
theorem fX5_18_2 : q_FL RX5 18 2 5 := ⟨RX2, TX2, 6, RX5, rfl, by decide, uX2, wd_431, Or.inl rfl⟩
theorem pX5_18_2 : q_FP RX5 18 2 5 .int false := ⟨RX2, TX2, 6, RX5, tyX2, rfl, by decide, uX2, wd_431, Or.inl rfl, tyX2_ok, nmX2, rfl, by decide +kernel, fun h => by cases h⟩
theorem fX5_18_3 : q_FL RX5 18 3 5 := ⟨RX3, TX3, 6, RX5, rfl, by decide, uX3, wd_431, Or.inl rfl⟩
theorem pX5_18_3 : q_FP RX5 18 3 5 .int false := ⟨RX3, TX3, 6, RX5, tyX3, rfl, by decide, uX3, wd_431, Or.inl rfl, tyX3_ok, nmX3, rfl, by decide +kernel, fun h => by cases h⟩
theorem fX5_18_4 : q_FL RX5 18 4 5 := ⟨RX4, TX4, 6, RX5, rfl, by decide, uX4, wd_431, Or.inl rfl⟩
theorem pX5_18_4 : q_FP RX5 18 4 5 .int false := ⟨RX4, TX4, 6, RX5, tyX4, rfl, by decide, uX4, wd_431, Or.inl rfl, tyX4_ok, nmX4, rfl, by decide +kernel, fun h => by cases h⟩
theorem fX5_18_5 : q_FL RX5 18 5 5 := ⟨RX5, TX5, 6, RX5, rfl, by decide, uX5, wd_431, Or.inl rfl⟩
theorem pX5_18_5 : q_FP RX5 18 5 5 .int false := ⟨RX5, TX5, 6, RX5, tyX5, rfl, by decide, uX5, wd_431, Or.inl rfl, tyX5_ok, nmX5, rfl, by decide +kernel, fun h => by cases h⟩
theorem fX1_33_0 : q_FL RX1 33 0 5 := ⟨RX0, TX0, 6, RX1, rfl, by decide, uX0, wd_432, Or.inr wd_433⟩
theorem fX1_33_1 : q_FL RX1 33 1 5 := ⟨RX1, TX1, 6, RX1, rfl, by decide, uX1, wd_432, Or.inr wd_433⟩
theorem fX4_36_3 : q_FL RX4 36 3 5 := ⟨RX3, TX3, 6, RX4, rfl, by decide, uX3, wd_434, Or.inr wd_435⟩
theorem fX4_36_4 : q_FL RX4 36 4 5 := ⟨RX4, TX4, 6, RX4, rfl, by decide, uX4, wd_434, Or.inr wd_435⟩
theorem fX11_156_0 : q_FL RX11 156 0 5 := ⟨RX0, TX0, 6, RX5, rfl, by decide, uX0, wd_436, Or.inl rfl⟩
theorem fX11_156_1 : q_FL RX11 156 1 5 := ⟨RX1, TX1, 6, RX5, rfl, by decide, uX1, wd_436, Or.inl rfl⟩
theorem fX11_156_2 : q_FL RX11 156 2 5 := ⟨RX2, TX2, 6, RX5, rfl, by decide, uX2, wd_436, Or.inl rfl⟩
theorem fX11_156_3 : q_FL RX11 156 3 5 := ⟨RX3, TX3, 6, RX5, rfl, by decide, uX3, wd_436, Or.inl rfl⟩
theorem fX11_156_4 : q_FL RX11 156 4 5 := ⟨RX4, TX4, 6, RX5, rfl, by decide, uX4, wd_436, Or.inl rfl⟩
theorem fX11_156_5 : q_FL RX11 156 5 5 := ⟨RX5, TX5, 6, RX5, rfl, by decide, uX5, wd_436, Or.inl rfl⟩
theorem fX12_7_12 : q_FL RX12 7 12 0 := ⟨RX12, TX12, 25, RX12, rfl, by decide, uX12, wd_1014, Or.inl rfl⟩
theorem pX12_7_12 : q_FP RX12 7 12 0 (.array .int) true := ⟨RX12, TX12, 25, RX12, tyX12, rfl, by decide, uX12, wd_1014, Or.inl rfl, tyX12_ok, nmX12, rfl, by decide +kernel, fun _ => rfl⟩
theorem fX12_130_12 : q_FL RX12 130 12 1 := ⟨RX12, TX12, 25, RX12, rfl, by decide, uX12, wd_1015, Or.inl rfl⟩
theorem pX12_130_12 : q_FP RX12 130 12 1 .int false := ⟨RX12, TX12, 25, RX12, tyX12, rfl, by decide, uX12, wd_1015, Or.inl rfl, tyX12_ok, nmX12, rfl, by decide +kernel, fun h => by cases h⟩
theorem fX12_133_12 : q_FL RX12 133 12 2 := ⟨RX12, TX12, 25, RX12, rfl, by decide, uX12, wd_1016, Or.inl rfl⟩
theorem pX12_133_12 : q_FP RX12 133 12 2 .int false := ⟨RX12, TX12, 25, RX12, tyX12, rfl, by decide, uX12, wd_1016, Or.inl rfl, tyX12_ok, nmX12, rfl, by decide +kernel, fun h => by cases h⟩
theorem fX12_139_12 : q_FL RX12 139 12 3 := ⟨RX12, TX12, 25, RX12, rfl, by decide, uX12, wd_1017, Or.inl rfl⟩
theorem pX12_139_12 : q_FP RX12 139 12 3 .int false := ⟨RX12, TX12, 25, RX12, tyX12, rfl, by decide, uX12, wd_1017, Or.inl rfl, tyX12_ok, nmX12, rfl, by decide +kernel, fun h => by cases h⟩
theorem fX12_142_12 : q_FL RX12 142 12 4 := ⟨RX12, TX12, 25, RX12, rfl, by decide, uX12, wd_1018, Or.inl rfl⟩
theorem pX12_142_12 : q_FP RX12 142 12 4 .int false := ⟨RX12, TX12, 25, RX12, tyX12, rfl, by decide, uX12, wd_1018, Or.inl rfl, tyX12_ok, nmX12, rfl, by decide +kernel, fun h => by cases h⟩
theorem fX12_13_12 : q_FL RX12 13 12 5 := ⟨RX12, TX12, 25, RX12, rfl, by decide, uX12, wd_1019, Or.inl rfl⟩
theorem pX12_13_12 : q_FP RX12 13 12 5 (.array .int) true := ⟨RX12, TX12, 25, RX12, tyX12, rfl, by decide, uX12, wd_1019, Or.inl rfl, tyX12_ok, nmX12, rfl, by decide +kernel, fun _ => rfl⟩
theorem fX12_16_12 : q_FL RX12 16 12 6 := ⟨RX12, TX12, 25, RX12, rfl, by decide, uX12, wd_1020, Or.inl rfl⟩
theorem pX12_16_12 : q_FP RX12 16 12 6 (.array .long) true := ⟨RX12, TX12, 25, RX12, tyX12, rfl, by decide, uX12, wd_1020, Or.inl rfl, tyX12_ok, nmX12, rfl, by decide +kernel, fun _ => rfl⟩
theorem fX12_20_12 : q_FL RX12 20 12 7 := ⟨RX12, TX12, 25, RX12, rfl, by decide, uX12, wd_1021, Or.inl rfl⟩
theorem pX12_20_12 : q_FP RX12 20 12 7 (.array .int) true := ⟨RX12, TX12, 25, RX12, tyX12, rfl, by decide, uX12, wd_1021, Or.inl rfl, tyX12_ok, nmX12, rfl, by decide +kernel, fun _ => rfl⟩
theorem fX12_23_12 : q_FL RX12 23 12 8 := ⟨RX12, TX12, 25, RX12, rfl, by decide, uX12, wd_1022, Or.inl rfl⟩
theorem pX12_23_12 : q_FP RX12 23 12 8 (.array .int) true := ⟨RX12, TX12, 25, RX12, tyX12, rfl, by decide, uX12, wd_1022, Or.inl rfl, tyX12_ok, nmX12, rfl, by decide +kernel, fun _ => rfl⟩
theorem fX12_26_12 : q_FL RX12 26 12 9 := ⟨RX12, TX12, 25, RX12, rfl, by decide, uX12, wd_1023, Or.inl rfl⟩
theorem pX12_26_12 : q_FP RX12 26 12 9 (.array .int) true := ⟨RX12, TX12, 25, RX12, tyX12, rfl, by decide, uX12, wd_1023, Or.inl rfl, tyX12_ok, nmX12, rfl, by decide +kernel, fun _ => rfl⟩
theorem fX12_29_12 : q_FL RX12 29 12 10 := ⟨RX12, TX12, 25, RX12, rfl, by decide, uX12, wd_1024, Or.inl rfl⟩
theorem pX12_29_12 : q_FP RX12 29 12 10 (.array .int) true := ⟨RX12, TX12, 25, RX12, tyX12, rfl, by decide, uX12, wd_1024, Or.inl rfl, tyX12_ok, nmX12, rfl, by decide +kernel, fun _ => rfl⟩
theorem fX12_52_12 : q_FL RX12 52 12 11 := ⟨RX12, TX12, 25, RX12, rfl, by decide, uX12, wd_1025, Or.inl rfl⟩
theorem pX12_52_12 : q_FP RX12 52 12 11 .int false := ⟨RX12, TX12, 25, RX12, tyX12, rfl, by decide, uX12, wd_1025, Or.inl rfl, tyX12_ok, nmX12, rfl, by decide +kernel, fun h => by cases h⟩
theorem fX12_216_12 : q_FL RX12 216 12 12 := ⟨RX12, TX12, 25, RX12, rfl, by decide, uX12, wd_1026, Or.inl rfl⟩
theorem pX12_216_12 : q_FP RX12 216 12 12 .long false := ⟨RX12, TX12, 25, RX12, tyX12, rfl, by decide, uX12, wd_1026, Or.inl rfl, tyX12_ok, nmX12, rfl, by decide +kernel, fun h => by cases h⟩
theorem fX12_32_12 : q_FL RX12 32 12 13 := ⟨RX12, TX12, 25, RX12, rfl, by decide, uX12, wd_1027, Or.inl rfl⟩
theorem pX12_32_12 : q_FP RX12 32 12 13 .long false := ⟨RX12, TX12, 25, RX12, tyX12, rfl, by decide, uX12, wd_1027, Or.inl rfl, tyX12_ok, nmX12, rfl, by decide +kernel, fun h => by cases h⟩
theorem fX12_48_12 : q_FL RX12 48 12 14 := ⟨RX12, TX12, 25, RX12, rfl, by decide, uX12, wd_1028, Or.inl rfl⟩
theorem pX12_48_12 : q_FP RX12 48 12 14 .int false := ⟨RX12, TX12, 25, RX12, tyX12, rfl, by decide, uX12, wd_1028, Or.inl rfl, tyX12_ok, nmX12, rfl, by decide +kernel, fun h => by cases h⟩
theorem fX12_36_12 : q_FL RX12 36 12 15 := ⟨RX12, TX12, 25, RX12, rfl, by decide, uX12, wd_1029, Or.inl rfl⟩
theorem pX12_36_12 : q_FP RX12 36 12 15 (.array .int) true := ⟨RX12, TX12, 25, RX12, tyX12, rfl, by decide, uX12, wd_1029, Or.inl rfl, tyX12_ok, nmX12, rfl, by decide +kernel, fun _ => rfl⟩
theorem fX12_89_12 : q_FL RX12 89 12 16 := ⟨RX12, TX12, 25, RX12, rfl, by decide, uX12, wd_1030, Or.inl rfl⟩
theorem pX12_89_12 : q_FP RX12 89 12 16 .int false := ⟨RX12, TX12, 25, RX12, tyX12, rfl, by decide, uX12, wd_1030, Or.inl rfl, tyX12_ok, nmX12, rfl, by decide +kernel, fun h => by cases h⟩
theorem fX12_92_12 : q_FL RX12 92 12 17 := ⟨RX12, TX12, 25, RX12, rfl, by decide, uX12, wd_1031, Or.inl rfl⟩
theorem pX12_92_12 : q_FP RX12 92 12 17 .int false := ⟨RX12, TX12, 25, RX12, tyX12, rfl, by decide, uX12, wd_1031, Or.inl rfl, tyX12_ok, nmX12, rfl, by decide +kernel, fun h => by cases h⟩
theorem fX12_95_12 : q_FL RX12 95 12 18 := ⟨RX12, TX12, 25, RX12, rfl, by decide, uX12, wd_1032, Or.inl rfl⟩
theorem pX12_95_12 : q_FP RX12 95 12 18 .int false := ⟨RX12, TX12, 25, RX12, tyX12, rfl, by decide, uX12, wd_1032, Or.inl rfl, tyX12_ok, nmX12, rfl, by decide +kernel, fun h => by cases h⟩
theorem fX12_108_12 : q_FL RX12 108 12 19 := ⟨RX12, TX12, 25, RX12, rfl, by decide, uX12, wd_1033, Or.inl rfl⟩
theorem pX12_108_12 : q_FP RX12 108 12 19 .int false := ⟨RX12, TX12, 25, RX12, tyX12, rfl, by decide, uX12, wd_1033, Or.inl rfl, tyX12_ok, nmX12, rfl, by decide +kernel, fun h => by cases h⟩
theorem fX12_111_12 : q_FL RX12 111 12 20 := ⟨RX12, TX12, 25, RX12, rfl, by decide, uX12, wd_1034, Or.inl rfl⟩
theorem pX12_111_12 : q_FP RX12 111 12 20 .int false := ⟨RX12, TX12, 25, RX12, tyX12, rfl, by decide, uX12, wd_1034, Or.inl rfl, tyX12_ok, nmX12, rfl, by decide +kernel, fun h => by cases h⟩
theorem fX12_39_12 : q_FL RX12 39 12 21 := ⟨RX12, TX12, 25, RX12, rfl, by decide, uX12, wd_1035, Or.inl rfl⟩
theorem pX12_39_12 : q_FP RX12 39 12 21 (.array .int) true := ⟨RX12, TX12, 25, RX12, tyX12, rfl, by decide, uX12, wd_1035, Or.inl rfl, tyX12_ok, nmX12, rfl, by decide +kernel, fun _ => rfl⟩
theorem fX12_117_12 : q_FL RX12 117 12 22 := ⟨RX12, TX12, 25, RX12, rfl, by decide, uX12, wd_1036, Or.inl rfl⟩
theorem pX12_117_12 : q_FP RX12 117 12 22 .int false := ⟨RX12, TX12, 25, RX12, tyX12, rfl, by decide, uX12, wd_1036, Or.inl rfl, tyX12_ok, nmX12, rfl, by decide +kernel, fun h => by cases h⟩
theorem fX12_42_12 : q_FL RX12 42 12 23 := ⟨RX12, TX12, 25, RX12, rfl, by decide, uX12, wd_1037, Or.inl rfl⟩
theorem pX12_42_12 : q_FP RX12 42 12 23 (.array .int) true := ⟨RX12, TX12, 25, RX12, tyX12, rfl, by decide, uX12, wd_1037, Or.inl rfl, tyX12_ok, nmX12, rfl, by decide +kernel, fun _ => rfl⟩
theorem fX12_45_12 : q_FL RX12 45 12 24 := ⟨RX12, TX12, 25, RX12, rfl, by decide, uX12, wd_1038, Or.inl rfl⟩
theorem pX12_45_12 : q_FP RX12 45 12 24 (.array .long) true := ⟨RX12, TX12, 25, RX12, tyX12, rfl, by decide, uX12, wd_1038, Or.inl rfl, tyX12_ok, nmX12, rfl, by decide +kernel, fun _ => rfl⟩
theorem kL_9 : q_CI RL 9 mX11_init 0 := ⟨wd_79, wd_80, wd_62, wd_81, rfl, rfl, ⟨by decide, by decide⟩, by decide +kernel, by decide⟩
theorem kX8_24 : q_CI RX8 24 mX9_init 1 := ⟨wd_155, wd_156, wd_66, wd_157, rfl, rfl, ⟨by decide, by decide⟩, by decide +kernel, by decide⟩
theorem kX11_56 : q_CI RX11 56 mX7_init 1 := ⟨wd_220, wd_221, wd_67, wd_222, rfl, rfl, ⟨by decide, by decide⟩, by decide +kernel, by decide⟩
theorem kX11_59 : q_CI RX11 59 mX9_init 1 := ⟨wd_240, wd_156, wd_66, wd_157, rfl, rfl, ⟨by decide, by decide⟩, by decide +kernel, by decide⟩
theorem kL_13_11 : q_CV RL 13 11 mX11_row 2 := ⟨TX11, 10, rfl, wd_272, wd_273, wd_274, wd_62, wd_275, ⟨by decide, by decide⟩, by decide +kernel, by decide⟩
theorem kX11_60 : q_CS RX11 60 mX11_among 2 := ⟨wd_276, wd_277, wd_62, wd_278, ⟨by decide, by decide⟩, by decide +kernel, by decide⟩
theorem kX11_64_11 : q_CV RX11 64 11 mX11_makeAnew 3 := ⟨TX11, 10, rfl, wd_279, wd_281, wd_0, wd_62, wd_282, ⟨by decide, by decide⟩, by decide +kernel, by decide⟩
theorem kX11_85_11 : q_CV RX11 85 11 mX11_found 1 := ⟨TX11, 10, rfl, wd_283, wd_285, wd_1, wd_62, wd_286, ⟨by decide, by decide⟩, by decide +kernel, by decide⟩
theorem kX11_240_7 : q_CV RX11 240 7 mX7_make 2 := ⟨TX7, 2, rfl, wd_287, wd_288, wd_289, wd_67, wd_290, ⟨by decide, by decide⟩, by decide +kernel, by decide⟩
theorem kL_18_11 : q_CV RL 18 11 mX11_lay 3 := ⟨TX11, 10, rfl, wd_294, wd_295, wd_296, wd_62, wd_297, ⟨by decide, by decide⟩, by decide +kernel, by decide⟩
theorem kX11_68_11 : q_CV RX11 68 11 mX11_refusedPlace 2 := ⟨TX11, 10, rfl, wd_298, wd_300, wd_2, wd_62, wd_301, ⟨by decide, by decide⟩, by decide +kernel, by decide⟩
theorem kX11_78_11 : q_CV RX11 78 11 mX11_refusedRow 1 := ⟨TX11, 10, rfl, wd_302, wd_304, wd_3, wd_62, wd_305, ⟨by decide, by decide⟩, by decide +kernel, by decide⟩
theorem kX11_89_7 : q_CV RX11 89 7 mX7_isMissing 0 := ⟨TX7, 2, rfl, wd_306, wd_307, wd_308, wd_67, wd_309, ⟨by decide, by decide⟩, by decide +kernel, by decide⟩
theorem kX11_341_7 : q_CV RX11 341 7 mX7_has 1 := ⟨TX7, 2, rfl, wd_310, wd_311, wd_312, wd_67, wd_313, ⟨by decide, by decide⟩, by decide +kernel, by decide⟩
theorem kX11_75_11 : q_CV RX11 75 11 mX11_tellNumber 1 := ⟨TX11, 10, rfl, wd_314, wd_316, wd_4, wd_62, wd_317, ⟨by decide, by decide⟩, by decide +kernel, by decide⟩
theorem kL_23_11 : q_CV RL 23 11 mX11_at 2 := ⟨TX11, 10, rfl, wd_318, wd_319, wd_320, wd_62, wd_321, ⟨by decide, by decide⟩, by decide +kernel, by decide⟩
theorem kL_27_11 : q_CV RL 27 11 mX11_tear 1 := ⟨TX11, 10, rfl, wd_322, wd_323, wd_324, wd_62, wd_325, ⟨by decide, by decide⟩, by decide +kernel, by decide⟩
theorem kL_32_11 : q_CV RL 32 11 mX11_copy 5 := ⟨TX11, 10, rfl, wd_326, wd_327, wd_328, wd_62, wd_329, ⟨by decide, by decide⟩, by decide +kernel, by decide⟩
theorem kX11_93_7 : q_CV RX11 93 7 mX7_hasRun 2 := ⟨TX7, 2, rfl, wd_330, wd_331, wd_332, wd_67, wd_333, ⟨by decide, by decide⟩, by decide +kernel, by decide⟩
theorem kL_37_11 : q_CV RL 37 11 mX11_mean 1 := ⟨TX11, 10, rfl, wd_337, wd_338, wd_339, wd_62, wd_340, ⟨by decide, by decide⟩, by decide +kernel, by decide⟩
theorem kX11_103_7 : q_CV RX11 103 7 mX7_sum 0 := ⟨TX7, 2, rfl, wd_341, wd_342, wd_343, wd_67, wd_344, ⟨by decide, by decide⟩, by decide +kernel, by decide⟩
theorem kL_41_11 : q_CV RL 41 11 mX11_text 2 := ⟨TX11, 10, rfl, wd_345, wd_346, wd_347, wd_62, wd_348, ⟨by decide, by decide⟩, by decide +kernel, by decide⟩
theorem kL_45_11 : q_CV RL 45 11 mX11_put 3 := ⟨TX11, 10, rfl, wd_349, wd_350, wd_351, wd_62, wd_352, ⟨by decide, by decide⟩, by decide +kernel, by decide⟩
theorem kL_49_11 : q_CV RL 49 11 mX11_fault 1 := ⟨TX11, 10, rfl, wd_353, wd_354, wd_355, wd_62, wd_356, ⟨by decide, by decide⟩, by decide +kernel, by decide⟩
theorem kX11_107_6 : q_CV RX11 107 6 mX6_faultOf 1 := ⟨TX6, 5, rfl, wd_357, wd_358, wd_359, wd_63, wd_360, ⟨by decide, by decide⟩, by decide +kernel, by decide⟩
theorem kX6_18 : q_CS RX6 18 mX6_behindBlanks 2 := ⟨wd_361, wd_362, wd_63, wd_363, ⟨by decide, by decide⟩, by decide +kernel, by decide⟩
theorem kX6_22 : q_CS RX6 22 mX6_signAt 2 := ⟨wd_364, wd_365, wd_63, wd_366, ⟨by decide, by decide⟩, by decide +kernel, by decide⟩
theorem kX6_51_7 : q_CV RX6 51 7 mX7_has 1 := ⟨TX7, 2, rfl, wd_367, wd_311, wd_312, wd_67, wd_313, ⟨by decide, by decide⟩, by decide +kernel, by decide⟩
theorem kX6_25 : q_CS RX6 25 mX6_figureAt 4 := ⟨wd_368, wd_369, wd_63, wd_370, ⟨by decide, by decide⟩, by decide +kernel, by decide⟩
theorem kX6_36_6 : q_CV RX6 36 6 mX6_personsFault 2 := ⟨TX6, 5, rfl, wd_371, wd_373, wd_5, wd_63, wd_374, ⟨by decide, by decide⟩, by decide +kernel, by decide⟩
theorem kX6_44 : q_CS RX6 44 mX6_kindOf 1 := ⟨wd_375, wd_376, wd_63, wd_377, ⟨by decide, by decide⟩, by decide +kernel, by decide⟩
theorem kL_53_11 : q_CV RL 53 11 mX11_shed 1 := ⟨TX11, 10, rfl, wd_378, wd_379, wd_380, wd_62, wd_381, ⟨by decide, by decide⟩, by decide +kernel, by decide⟩
theorem kX11_110_8 : q_CV RX11 110 8 mX8_begin 1 := ⟨TX8, 10, rfl, wd_382, wd_383, wd_384, wd_64, wd_385, ⟨by decide, by decide⟩, by decide +kernel, by decide⟩
theorem kX8_66_10 : q_CV RX8 66 10 mX10_make 2 := ⟨TX10, 4, rfl, wd_386, wd_387, wd_388, wd_65, wd_389, ⟨by decide, by decide⟩, by decide +kernel, by decide⟩
theorem kX8_75_8 : q_CV RX8 75 8 mX8_newPerson 3 := ⟨TX8, 10, rfl, wd_391, wd_393, wd_6, wd_64, wd_394, ⟨by decide, by decide⟩, by decide +kernel, by decide⟩
theorem kX8_93 : q_CI RX8 93 mX4_init 3 := ⟨wd_397, wd_398, wd_72, wd_399, rfl, rfl, ⟨by decide, by decide⟩, by decide +kernel, by decide⟩
theorem kX4_3 : q_CI RX4 3 mX5_init 3 := ⟨wd_400, wd_401, wd_71, wd_402, rfl, rfl, ⟨by decide, by decide⟩, by decide +kernel, by decide⟩
theorem kX8_98 : q_CI RX8 98 mX1_init 3 := ⟨wd_452, wd_453, wd_73, wd_454, rfl, rfl, ⟨by decide, by decide⟩, by decide +kernel, by decide⟩
theorem kX1_3 : q_CI RX1 3 mX5_init 3 := ⟨wd_455, wd_401, wd_71, wd_402, rfl, rfl, ⟨by decide, by decide⟩, by decide +kernel, by decide⟩
theorem kX8_101 : q_CI RX8 101 mX2_init 3 := ⟨wd_465, wd_466, wd_74, wd_467, rfl, rfl, ⟨by decide, by decide⟩, by decide +kernel, by decide⟩
theorem kX2_3 : q_CI RX2 3 mX5_init 3 := ⟨wd_468, wd_401, wd_71, wd_402, rfl, rfl, ⟨by decide, by decide⟩, by decide +kernel, by decide⟩
theorem kX8_104 : q_CI RX8 104 mX3_init 3 := ⟨wd_478, wd_479, wd_75, wd_480, rfl, rfl, ⟨by decide, by decide⟩, by decide +kernel, by decide⟩
theorem kX3_3 : q_CI RX3 3 mX4_init 3 := ⟨wd_481, wd_398, wd_72, wd_399, rfl, rfl, ⟨by decide, by decide⟩, by decide +kernel, by decide⟩
theorem kX8_107 : q_CI RX8 107 mX0_init 3 := ⟨wd_491, wd_492, wd_76, wd_493, rfl, rfl, ⟨by decide, by decide⟩, by decide +kernel, by decide⟩
theorem kX0_3 : q_CI RX0 3 mX1_init 3 := ⟨wd_494, wd_453, wd_73, wd_454, rfl, rfl, ⟨by decide, by decide⟩, by decide +kernel, by decide⟩
theorem kX8_108 : q_CI RX8 108 mX5_init 3 := ⟨wd_503, wd_401, wd_71, wd_402, rfl, rfl, ⟨by decide, by decide⟩, by decide +kernel, by decide⟩
theorem kX8_82_8 : q_CV RX8 82 8 mX8_setFlicks 2 := ⟨TX8, 10, rfl, wd_511, wd_512, wd_513, wd_64, wd_514, ⟨by decide, by decide⟩, by decide +kernel, by decide⟩
theorem kX8_109_8 : q_CV RX8 109 8 mX8_personAt 1 := ⟨TX8, 10, rfl, wd_515, wd_516, wd_517, wd_64, wd_518, ⟨by decide, by decide⟩, by decide +kernel, by decide⟩
theorem kX8_113_0 : q_CU RX8 113 0 mX5_learn 1 := ⟨RX0, TX0, 6, RX5, yX5_learn, rfl, wd_519, wd_522, wd_523, wd_520, wd_71, wd_528, wd_520, ⟨_, _, _, wd_528⟩, ⟨by decide, by decide⟩, by decide +kernel, by decide⟩
theorem kX8_113_1 : q_CU RX8 113 1 mX5_learn 1 := ⟨RX1, TX1, 6, RX5, yX5_learn, rfl, wd_519, wd_522, wd_524, wd_520, wd_71, wd_528, wd_520, ⟨_, _, _, wd_528⟩, ⟨by decide, by decide⟩, by decide +kernel, by decide⟩
theorem kX8_113_2 : q_CU RX8 113 2 mX5_learn 1 := ⟨RX2, TX2, 6, RX5, yX5_learn, rfl, wd_519, wd_522, wd_525, wd_520, wd_71, wd_528, wd_520, ⟨_, _, _, wd_528⟩, ⟨by decide, by decide⟩, by decide +kernel, by decide⟩
theorem kX8_113_3 : q_CU RX8 113 3 mX5_learn 1 := ⟨RX3, TX3, 6, RX5, yX5_learn, rfl, wd_519, wd_522, wd_526, wd_520, wd_71, wd_528, wd_520, ⟨_, _, _, wd_528⟩, ⟨by decide, by decide⟩, by decide +kernel, by decide⟩
theorem kX8_113_4 : q_CU RX8 113 4 mX5_learn 1 := ⟨RX4, TX4, 6, RX5, yX5_learn, rfl, wd_519, wd_522, wd_527, wd_520, wd_71, wd_528, wd_520, ⟨_, _, _, wd_528⟩, ⟨by decide, by decide⟩, by decide +kernel, by decide⟩
theorem kX8_113_5 : q_CV RX8 113 5 mX5_learn 1 := ⟨TX5, 6, rfl, wd_519, wd_520, wd_521, wd_71, wd_528, ⟨by decide, by decide⟩, by decide +kernel, by decide⟩
theorem kX5_48_0 : q_CU RX5 48 0 mX0_countWays 1 := ⟨RX0, TX0, 6, RX5, yX5_countWays, rfl, wd_529, wd_532, wd_533, wd_534, wd_76, wd_535, wd_530, ⟨_, _, _, wd_576⟩, ⟨by decide, by decide⟩, by decide +kernel, by decide⟩
theorem kX5_48_1 : q_CU RX5 48 1 mX1_countWays 1 := ⟨RX1, TX1, 6, RX5, yX5_countWays, rfl, wd_529, wd_532, wd_546, wd_547, wd_73, wd_548, wd_530, ⟨_, _, _, wd_576⟩, ⟨by decide, by decide⟩, by decide +kernel, by decide⟩
theorem kX5_48_2 : q_CU RX5 48 2 mX2_countWays 1 := ⟨RX2, TX2, 6, RX5, yX5_countWays, rfl, wd_529, wd_532, wd_555, wd_556, wd_74, wd_557, wd_530, ⟨_, _, _, wd_576⟩, ⟨by decide, by decide⟩, by decide +kernel, by decide⟩
theorem kX5_48_3 : q_CU RX5 48 3 mX4_countWays 1 := ⟨RX3, TX3, 6, RX5, yX5_countWays, rfl, wd_529, wd_532, wd_558, wd_559, wd_72, wd_560, wd_530, ⟨_, _, _, wd_576⟩, ⟨by decide, by decide⟩, by decide +kernel, by decide⟩
theorem kX5_48_4 : q_CU RX5 48 4 mX4_countWays 1 := ⟨RX4, TX4, 6, RX5, yX5_countWays, rfl, wd_529, wd_532, wd_575, wd_559, wd_72, wd_560, wd_530, ⟨_, _, _, wd_576⟩, ⟨by decide, by decide⟩, by decide +kernel, by decide⟩
theorem kX5_48_5 : q_CV RX5 48 5 mX5_countWays 1 := ⟨TX5, 6, rfl, wd_529, wd_530, wd_531, wd_71, wd_576, ⟨by decide, by decide⟩, by decide +kernel, by decide⟩
theorem kX0_9_0 : q_CU RX0 9 0 mX1_noneAboveFlicks 1 := ⟨RX0, TX0, 6, RX1, ⟨RX0, "noneAboveFlicks", "(I)Z"⟩, rfl, wd_536, wd_537, wd_539, wd_540, wd_73, wd_541, wd_540, ⟨_, _, _, wd_541⟩, ⟨by decide, by decide⟩, by decide +kernel, by decide⟩
theorem kX1_29_10 : q_CV RX1 29 10 mX10_notchOf 2 := ⟨TX10, 4, rfl, wd_542, wd_543, wd_544, wd_65, wd_545, ⟨by decide, by decide⟩, by decide +kernel, by decide⟩
theorem kX1_15_10 : q_CV RX1 15 10 mX10_wheelsIn 1 := ⟨TX10, 4, rfl, wd_549, wd_550, wd_551, wd_65, wd_552, ⟨by decide, by decide⟩, by decide +kernel, by decide⟩
theorem kX10_35_10 : q_CV RX10 35 10 mX10_notchOf 2 := ⟨TX10, 4, rfl, wd_553, wd_543, wd_544, wd_65, wd_545, ⟨by decide, by decide⟩, by decide +kernel, by decide⟩
theorem kX1_21_0 : q_CU RX1 21 0 mX1_noneAboveFlicks 1 := ⟨RX0, TX0, 6, RX1, yX1_noneAboveFlicks, rfl, wd_554, wd_1475, wd_1476, wd_540, wd_73, wd_541, wd_540, ⟨_, _, _, wd_541⟩, ⟨by decide, by decide⟩, by decide +kernel, by decide⟩
theorem kX1_21_1 : q_CV RX1 21 1 mX1_noneAboveFlicks 1 := ⟨TX1, 6, rfl, wd_554, wd_540, wd_1477, wd_73, wd_541, ⟨by decide, by decide⟩, by decide +kernel, by decide⟩
theorem kX4_21_3 : q_CU RX4 21 3 mX3_firstTurned 0 := ⟨RX3, TX3, 6, RX4, yX4_firstTurned, rfl, wd_561, wd_564, wd_565, wd_566, wd_75, wd_567, wd_562, ⟨_, _, _, wd_569⟩, ⟨by decide, by decide⟩, by decide +kernel, by decide⟩
theorem kX4_21_4 : q_CV RX4 21 4 mX4_firstTurned 0 := ⟨TX4, 6, rfl, wd_561, wd_562, wd_563, wd_72, wd_569, ⟨by decide, by decide⟩, by decide +kernel, by decide⟩
theorem kX4_25_10 : q_CV RX4 25 10 mX10_leavesAhead 2 := ⟨TX10, 4, rfl, wd_570, wd_571, wd_572, wd_65, wd_573, ⟨by decide, by decide⟩, by decide +kernel, by decide⟩
theorem kX4_29_10 : q_CV RX4 29 10 mX10_notchOf 2 := ⟨TX10, 4, rfl, wd_574, wd_543, wd_544, wd_65, wd_545, ⟨by decide, by decide⟩, by decide +kernel, by decide⟩
theorem kX5_37_10 : q_CV RX5 37 10 mX10_notchOf 2 := ⟨TX10, 4, rfl, wd_577, wd_543, wd_544, wd_65, wd_545, ⟨by decide, by decide⟩, by decide +kernel, by decide⟩
theorem kX5_41_10 : q_CV RX5 41 10 mX10_leavesAhead 2 := ⟨TX10, 4, rfl, wd_578, wd_571, wd_572, wd_65, wd_573, ⟨by decide, by decide⟩, by decide +kernel, by decide⟩
theorem kX8_88_8 : q_CV RX8 88 8 mX8_weighAgain 0 := ⟨TX8, 10, rfl, wd_579, wd_580, wd_581, wd_64, wd_582, ⟨by decide, by decide⟩, by decide +kernel, by decide⟩
theorem kX8_127_8 : q_CV RX8 127 8 mX8_setAll 2 := ⟨TX8, 10, rfl, wd_583, wd_585, wd_7, wd_64, wd_586, ⟨by decide, by decide⟩, by decide +kernel, by decide⟩
theorem kX8_124_8 : q_CV RX8 124 8 mX8_weigh 2 := ⟨TX8, 10, rfl, wd_587, wd_589, wd_8, wd_64, wd_590, ⟨by decide, by decide⟩, by decide +kernel, by decide⟩
theorem kX8_136_8 : q_CV RX8 136 8 mX8_weighLook 3 := ⟨TX8, 10, rfl, wd_591, wd_593, wd_9, wd_64, wd_594, ⟨by decide, by decide⟩, by decide +kernel, by decide⟩
theorem kX8_146_10 : q_CV RX8 146 10 mX10_turnBetween 2 := ⟨TX10, 4, rfl, wd_595, wd_596, wd_597, wd_65, wd_598, ⟨by decide, by decide⟩, by decide +kernel, by decide⟩
theorem kX10_31_10 : q_CV RX10 31 10 mX10_isSetting 1 := ⟨TX10, 4, rfl, wd_599, wd_600, wd_601, wd_65, wd_602, ⟨by decide, by decide⟩, by decide +kernel, by decide⟩
theorem kX8_150_0 : q_CU RX8 150 0 mX5_timesOf 1 := ⟨RX0, TX0, 6, RX5, yX5_timesOf, rfl, wd_603, wd_606, wd_607, wd_604, wd_71, wd_612, wd_604, ⟨_, _, _, wd_612⟩, ⟨by decide, by decide⟩, by decide +kernel, by decide⟩
theorem kX8_150_1 : q_CU RX8 150 1 mX5_timesOf 1 := ⟨RX1, TX1, 6, RX5, yX5_timesOf, rfl, wd_603, wd_606, wd_608, wd_604, wd_71, wd_612, wd_604, ⟨_, _, _, wd_612⟩, ⟨by decide, by decide⟩, by decide +kernel, by decide⟩
theorem kX8_150_2 : q_CU RX8 150 2 mX5_timesOf 1 := ⟨RX2, TX2, 6, RX5, yX5_timesOf, rfl, wd_603, wd_606, wd_609, wd_604, wd_71, wd_612, wd_604, ⟨_, _, _, wd_612⟩, ⟨by decide, by decide⟩, by decide +kernel, by decide⟩
theorem kX8_150_3 : q_CU RX8 150 3 mX5_timesOf 1 := ⟨RX3, TX3, 6, RX5, yX5_timesOf, rfl, wd_603, wd_606, wd_610, wd_604, wd_71, wd_612, wd_604, ⟨_, _, _, wd_612⟩, ⟨by decide, by decide⟩, by decide +kernel, by decide⟩
theorem kX8_150_4 : q_CU RX8 150 4 mX5_timesOf 1 := ⟨RX4, TX4, 6, RX5, yX5_timesOf, rfl, wd_603, wd_606, wd_611, wd_604, wd_71, wd_612, wd_604, ⟨_, _, _, wd_612⟩, ⟨by decide, by decide⟩, by decide +kernel, by decide⟩
theorem kX8_150_5 : q_CV RX8 150 5 mX5_timesOf 1 := ⟨TX5, 6, rfl, wd_603, wd_604, wd_605, wd_71, wd_612, ⟨by decide, by decide⟩, by decide +kernel, by decide⟩
theorem kX5_52_10 : q_CV RX5 52 10 mX10_isSetting 1 := ⟨TX10, 4, rfl, wd_613, wd_600, wd_601, wd_65, wd_602, ⟨by decide, by decide⟩, by decide +kernel, by decide⟩
theorem kX8_140_10 : q_CV RX8 140 10 mX10_isSetting 1 := ⟨TX10, 4, rfl, wd_614, wd_600, wd_601, wd_65, wd_602, ⟨by decide, by decide⟩, by decide +kernel, by decide⟩
theorem kL_57_11 : q_CV RL 57 11 mX11_person 2 := ⟨TX11, 10, rfl, wd_615, wd_616, wd_617, wd_62, wd_618, ⟨by decide, by decide⟩, by decide +kernel, by decide⟩
theorem kX11_118_8 : q_CV RX11 118 8 mX8_personAt 1 := ⟨TX8, 10, rfl, wd_619, wd_516, wd_517, wd_64, wd_518, ⟨by decide, by decide⟩, by decide +kernel, by decide⟩
theorem kX11_122_11 : q_CV RX11 122 11 mX11_factOf 3 := ⟨TX11, 10, rfl, wd_620, wd_622, wd_10, wd_62, wd_623, ⟨by decide, by decide⟩, by decide +kernel, by decide⟩
theorem kX11_348_0 : q_CU RX11 348 0 mX0_kind 0 := ⟨RX0, TX0, 6, RX5, yX5_kind, rfl, wd_624, wd_627, wd_628, wd_629, wd_76, wd_630, wd_625, ⟨_, _, _, wd_643⟩, ⟨by decide, by decide⟩, by decide +kernel, by decide⟩
theorem kX11_348_1 : q_CU RX11 348 1 mX1_kind 0 := ⟨RX1, TX1, 6, RX5, yX5_kind, rfl, wd_624, wd_627, wd_631, wd_632, wd_73, wd_633, wd_625, ⟨_, _, _, wd_643⟩, ⟨by decide, by decide⟩, by decide +kernel, by decide⟩
theorem kX11_348_2 : q_CU RX11 348 2 mX2_kind 0 := ⟨RX2, TX2, 6, RX5, yX5_kind, rfl, wd_624, wd_627, wd_634, wd_635, wd_74, wd_636, wd_625, ⟨_, _, _, wd_643⟩, ⟨by decide, by decide⟩, by decide +kernel, by decide⟩
theorem kX11_348_3 : q_CU RX11 348 3 mX3_kind 0 := ⟨RX3, TX3, 6, RX5, yX5_kind, rfl, wd_624, wd_627, wd_637, wd_638, wd_75, wd_639, wd_625, ⟨_, _, _, wd_643⟩, ⟨by decide, by decide⟩, by decide +kernel, by decide⟩
theorem kX11_348_4 : q_CU RX11 348 4 mX4_kind 0 := ⟨RX4, TX4, 6, RX5, yX5_kind, rfl, wd_624, wd_627, wd_640, wd_641, wd_72, wd_642, wd_625, ⟨_, _, _, wd_643⟩, ⟨by decide, by decide⟩, by decide +kernel, by decide⟩
theorem kX11_348_5 : q_CV RX11 348 5 mX5_kind 0 := ⟨TX5, 6, rfl, wd_624, wd_625, wd_626, wd_71, wd_643, ⟨by decide, by decide⟩, by decide +kernel, by decide⟩
theorem kX11_351_9 : q_CV RX11 351 9 mX9_looksAt 1 := ⟨TX9, 4, rfl, wd_644, wd_645, wd_646, wd_66, wd_647, ⟨by decide, by decide⟩, by decide +kernel, by decide⟩
theorem kL_61_11 : q_CV RL 61 11 mX11_mark 2 := ⟨TX11, 10, rfl, wd_648, wd_649, wd_650, wd_62, wd_651, ⟨by decide, by decide⟩, by decide +kernel, by decide⟩
theorem kX11_128_3 : q_CU RX11 128 3 mX4_unlikeSights 0 := ⟨RX3, TX3, 6, RX4, yX4_unlikeSights, rfl, wd_653, wd_656, wd_657, wd_654, wd_72, wd_658, wd_654, ⟨_, _, _, wd_658⟩, ⟨by decide, by decide⟩, by decide +kernel, by decide⟩
theorem kX11_128_4 : q_CV RX11 128 4 mX4_unlikeSights 0 := ⟨TX4, 6, rfl, wd_653, wd_654, wd_655, wd_72, wd_658, ⟨by decide, by decide⟩, by decide +kernel, by decide⟩
theorem kX11_134_0 : q_CU RX11 134 0 mX1_waysLeavingFirst 0 := ⟨RX0, TX0, 6, RX1, yX1_waysLeavingFirst, rfl, wd_660, wd_663, wd_664, wd_661, wd_73, wd_665, wd_661, ⟨_, _, _, wd_665⟩, ⟨by decide, by decide⟩, by decide +kernel, by decide⟩
theorem kX11_134_1 : q_CV RX11 134 1 mX1_waysLeavingFirst 0 := ⟨TX1, 6, rfl, wd_660, wd_661, wd_662, wd_73, wd_665, ⟨by decide, by decide⟩, by decide +kernel, by decide⟩
theorem kX1_43_0 : q_CU RX1 43 0 mX5_timesOf 1 := ⟨RX0, TX0, 6, RX5, ⟨RX1, "timesOf", "(I)I"⟩, rfl, wd_666, wd_667, wd_669, wd_604, wd_71, wd_612, wd_604, ⟨_, _, _, wd_612⟩, ⟨by decide, by decide⟩, by decide +kernel, by decide⟩
theorem kX1_43_1 : q_CU RX1 43 1 mX5_timesOf 1 := ⟨RX1, TX1, 6, RX5, ⟨RX1, "timesOf", "(I)I"⟩, rfl, wd_666, wd_667, wd_670, wd_604, wd_71, wd_612, wd_604, ⟨_, _, _, wd_612⟩, ⟨by decide, by decide⟩, by decide +kernel, by decide⟩
theorem kX11_139_8 : q_CV RX11 139 8 mX8_howManyCanBe 0 := ⟨TX8, 10, rfl, wd_672, wd_673, wd_674, wd_64, wd_675, ⟨by decide, by decide⟩, by decide +kernel, by decide⟩
theorem kX8_160_8 : q_CV RX8 160 8 mX8_howManyAbove 1 := ⟨TX8, 10, rfl, wd_676, wd_677, wd_678, wd_64, wd_679, ⟨by decide, by decide⟩, by decide +kernel, by decide⟩
theorem kX11_144_3 : q_CV RX11 144 3 mX3_turnedWheels 0 := ⟨TX3, 6, rfl, wd_681, wd_682, wd_683, wd_75, wd_684, ⟨by decide, by decide⟩, by decide +kernel, by decide⟩
theorem kX3_27_3 : q_CV RX3 27 3 mX3_firstTurned 0 := ⟨TX3, 6, rfl, wd_685, wd_566, wd_1478, wd_75, wd_567, ⟨by decide, by decide⟩, by decide +kernel, by decide⟩
theorem kX11_149_0 : q_CV RX11 149 0 mX0_turnedNotches 0 := ⟨TX0, 6, rfl, wd_687, wd_688, wd_689, wd_76, wd_690, ⟨by decide, by decide⟩, by decide +kernel, by decide⟩
theorem kX0_32_0 : q_CU RX0 32 0 mX5_timesOf 1 := ⟨RX0, TX0, 6, RX5, ⟨RX0, "timesOf", "(I)I"⟩, rfl, wd_691, wd_692, wd_693, wd_604, wd_71, wd_612, wd_604, ⟨_, _, _, wd_612⟩, ⟨by decide, by decide⟩, by decide +kernel, by decide⟩
theorem kX0_36_10 : q_CV RX0 36 10 mX10_notchOf 2 := ⟨TX10, 4, rfl, wd_694, wd_543, wd_544, wd_65, wd_545, ⟨by decide, by decide⟩, by decide +kernel, by decide⟩
theorem kL_65_11 : q_CV RL 65 11 mX11_flicks 2 := ⟨TX11, 10, rfl, wd_695, wd_696, wd_697, wd_62, wd_698, ⟨by decide, by decide⟩, by decide +kernel, by decide⟩
theorem kX11_161_8 : q_CV RX11 161 8 mX8_setFlicks 2 := ⟨TX8, 10, rfl, wd_699, wd_512, wd_513, wd_64, wd_514, ⟨by decide, by decide⟩, by decide +kernel, by decide⟩
theorem kL_69_11 : q_CV RL 69 11 mX11_look 2 := ⟨TX11, 10, rfl, wd_700, wd_701, wd_702, wd_62, wd_703, ⟨by decide, by decide⟩, by decide +kernel, by decide⟩
theorem kX11_169_10 : q_CV RX11 169 10 mX10_isSetting 1 := ⟨TX10, 4, rfl, wd_704, wd_600, wd_601, wd_65, wd_602, ⟨by decide, by decide⟩, by decide +kernel, by decide⟩
theorem kX11_175_8 : q_CV RX11 175 8 mX8_leftBehindLook 2 := ⟨TX8, 10, rfl, wd_705, wd_706, wd_707, wd_64, wd_708, ⟨by decide, by decide⟩, by decide +kernel, by decide⟩
theorem kX11_179_9 : q_CV RX11 179 9 mX9_isFull 0 := ⟨TX9, 4, rfl, wd_710, wd_711, wd_712, wd_66, wd_713, ⟨by decide, by decide⟩, by decide +kernel, by decide⟩
theorem kX11_182_8 : q_CV RX11 182 8 mX8_addDeed 2 := ⟨TX8, 10, rfl, wd_714, wd_715, wd_716, wd_64, wd_717, ⟨by decide, by decide⟩, by decide +kernel, by decide⟩
theorem kX8_121_9 : q_CV RX8 121 9 mX9_add 2 := ⟨TX9, 4, rfl, wd_718, wd_719, wd_720, wd_66, wd_721, ⟨by decide, by decide⟩, by decide +kernel, by decide⟩
theorem kX9_25_9 : q_CV RX9 25 9 mX9_isFull 0 := ⟨TX9, 4, rfl, wd_722, wd_711, wd_712, wd_66, wd_713, ⟨by decide, by decide⟩, by decide +kernel, by decide⟩
theorem kL_73_11 : q_CV RL 73 11 mX11_vain 1 := ⟨TX11, 10, rfl, wd_723, wd_724, wd_725, wd_62, wd_726, ⟨by decide, by decide⟩, by decide +kernel, by decide⟩
theorem kX11_185_8 : q_CV RX11 185 8 mX8_leftBehindTry 1 := ⟨TX8, 10, rfl, wd_727, wd_728, wd_729, wd_64, wd_730, ⟨by decide, by decide⟩, by decide +kernel, by decide⟩
theorem kX8_164_8 : q_CV RX8 164 8 mX8_howManyCanBe 0 := ⟨TX8, 10, rfl, wd_731, wd_673, wd_674, wd_64, wd_675, ⟨by decide, by decide⟩, by decide +kernel, by decide⟩
theorem kL_77_11 : q_CV RL 77 11 mX11_undo 1 := ⟨TX11, 10, rfl, wd_732, wd_733, wd_734, wd_62, wd_735, ⟨by decide, by decide⟩, by decide +kernel, by decide⟩
theorem kX11_188_8 : q_CV RX11 188 8 mX8_weighAgain 0 := ⟨TX8, 10, rfl, wd_736, wd_580, wd_581, wd_64, wd_582, ⟨by decide, by decide⟩, by decide +kernel, by decide⟩
theorem kL_81_11 : q_CV RL 81 11 mX11_keep 1 := ⟨TX11, 10, rfl, wd_737, wd_738, wd_739, wd_62, wd_740, ⟨by decide, by decide⟩, by decide +kernel, by decide⟩
theorem kX11_191_9 : q_CV RX11 191 9 mX9_takeFrom 1 := ⟨TX9, 4, rfl, wd_741, wd_742, wd_743, wd_66, wd_744, ⟨by decide, by decide⟩, by decide +kernel, by decide⟩
theorem kL_85_11 : q_CV RL 85 11 mX11_on 1 := ⟨TX11, 10, rfl, wd_746, wd_747, wd_748, wd_62, wd_749, ⟨by decide, by decide⟩, by decide +kernel, by decide⟩
theorem kX11_195_8 : q_CV RX11 195 8 mX8_goOnFrom 1 := ⟨TX8, 10, rfl, wd_750, wd_751, wd_752, wd_64, wd_753, ⟨by decide, by decide⟩, by decide +kernel, by decide⟩
theorem kX8_117_9 : q_CV RX8 117 9 mX9_takeFrom 1 := ⟨TX9, 4, rfl, wd_754, wd_742, wd_743, wd_66, wd_744, ⟨by decide, by decide⟩, by decide +kernel, by decide⟩
theorem kL_89_11 : q_CV RL 89 11 mX11_likely 1 := ⟨TX11, 10, rfl, wd_755, wd_756, wd_757, wd_62, wd_758, ⟨by decide, by decide⟩, by decide +kernel, by decide⟩
theorem kX11_202_8 : q_CV RX11 202 8 mX8_sumOf 1 := ⟨TX8, 10, rfl, wd_759, wd_760, wd_761, wd_64, wd_762, ⟨by decide, by decide⟩, by decide +kernel, by decide⟩
theorem kX11_206_11 : q_CV RX11 206 11 mX11_tellChance 2 := ⟨TX11, 10, rfl, wd_763, wd_765, wd_11, wd_62, wd_766, ⟨by decide, by decide⟩, by decide +kernel, by decide⟩
theorem kX11_344 : q_CS RX11 344 mX11_greatestShared 2 := ⟨wd_767, wd_768, wd_62, wd_769, ⟨by decide, by decide⟩, by decide +kernel, by decide⟩
theorem kL_93_11 : q_CV RL 93 11 mX11_best 0 := ⟨TX11, 10, rfl, wd_770, wd_771, wd_772, wd_62, wd_773, ⟨by decide, by decide⟩, by decide +kernel, by decide⟩
theorem kX11_210_8 : q_CV RX11 210 8 mX8_likeliest 1 := ⟨TX8, 10, rfl, wd_774, wd_775, wd_776, wd_64, wd_777, ⟨by decide, by decide⟩, by decide +kernel, by decide⟩
theorem kX11_214_8 : q_CV RX11 214 8 mX8_howManyAre 2 := ⟨TX8, 10, rfl, wd_778, wd_779, wd_780, wd_64, wd_781, ⟨by decide, by decide⟩, by decide +kernel, by decide⟩
theorem kL_98_11 : q_CV RL 98 11 mX11_wheel 2 := ⟨TX11, 10, rfl, wd_782, wd_783, wd_784, wd_62, wd_785, ⟨by decide, by decide⟩, by decide +kernel, by decide⟩
theorem kX11_218_10 : q_CV RX11 218 10 mX10_isWheel 1 := ⟨TX10, 4, rfl, wd_786, wd_787, wd_788, wd_65, wd_789, ⟨by decide, by decide⟩, by decide +kernel, by decide⟩
theorem kX11_224_8 : q_CV RX11 224 8 mX8_weightAt 2 := ⟨TX8, 10, rfl, wd_790, wd_791, wd_792, wd_64, wd_793, ⟨by decide, by decide⟩, by decide +kernel, by decide⟩
theorem kX8_168_10 : q_CV RX8 168 10 mX10_notchOf 2 := ⟨TX10, 4, rfl, wd_794, wd_543, wd_544, wd_65, wd_545, ⟨by decide, by decide⟩, by decide +kernel, by decide⟩
theorem kL_102_11 : q_CV RL 102 11 mX11_certain 0 := ⟨TX11, 10, rfl, wd_795, wd_796, wd_797, wd_62, wd_798, ⟨by decide, by decide⟩, by decide +kernel, by decide⟩
theorem kX11_229_8 : q_CV RX11 229 8 mX8_certainNotch 1 := ⟨TX8, 10, rfl, wd_799, wd_800, wd_801, wd_64, wd_802, ⟨by decide, by decide⟩, by decide +kernel, by decide⟩
theorem kX8_171_8 : q_CV RX8 171 8 mX8_firstAbove 1 := ⟨TX8, 10, rfl, wd_803, wd_804, wd_805, wd_64, wd_806, ⟨by decide, by decide⟩, by decide +kernel, by decide⟩
theorem kX8_174_8 : q_CV RX8 174 8 mX8_weightAt 2 := ⟨TX8, 10, rfl, wd_807, wd_791, wd_792, wd_64, wd_793, ⟨by decide, by decide⟩, by decide +kernel, by decide⟩
theorem kX8_178_8 : q_CV RX8 178 8 mX8_sumOf 1 := ⟨TX8, 10, rfl, wd_808, wd_760, wd_761, wd_64, wd_762, ⟨by decide, by decide⟩, by decide +kernel, by decide⟩
theorem kL_106_11 : q_CV RL 106 11 mX11_order 2 := ⟨TX11, 10, rfl, wd_809, wd_810, wd_811, wd_62, wd_812, ⟨by decide, by decide⟩, by decide +kernel, by decide⟩
theorem kX11_232_8 : q_CV RX11 232 8 mX8_sortCodes 0 := ⟨TX8, 10, rfl, wd_813, wd_814, wd_815, wd_64, wd_816, ⟨by decide, by decide⟩, by decide +kernel, by decide⟩
theorem kL_110_11 : q_CV RL 110 11 mX11_tries 0 := ⟨TX11, 10, rfl, wd_818, wd_819, wd_820, wd_62, wd_821, ⟨by decide, by decide⟩, by decide +kernel, by decide⟩
theorem kX11_246_8 : q_CV RX11 246 8 mX8_triesInAll 0 := ⟨TX8, 10, rfl, wd_822, wd_823, wd_824, wd_64, wd_825, ⟨by decide, by decide⟩, by decide +kernel, by decide⟩
theorem kX8_182_8 : q_CV RX8 182 8 mX8_sortCodes 0 := ⟨TX8, 10, rfl, wd_826, wd_814, wd_815, wd_64, wd_816, ⟨by decide, by decide⟩, by decide +kernel, by decide⟩
theorem kL_114_11 : q_CV RL 114 11 mX11_within 1 := ⟨TX11, 10, rfl, wd_827, wd_828, wd_829, wd_62, wd_830, ⟨by decide, by decide⟩, by decide +kernel, by decide⟩
theorem kX11_249_8 : q_CV RX11 249 8 mX8_weightOfFirst 1 := ⟨TX8, 10, rfl, wd_831, wd_832, wd_833, wd_64, wd_834, ⟨by decide, by decide⟩, by decide +kernel, by decide⟩
theorem kL_118_11 : q_CV RL 118 11 mX11_worth 1 := ⟨TX11, 10, rfl, wd_836, wd_837, wd_838, wd_62, wd_839, ⟨by decide, by decide⟩, by decide +kernel, by decide⟩
theorem kX11_253_8 : q_CV RX11 253 8 mX8_worthOf 1 := ⟨TX8, 10, rfl, wd_840, wd_841, wd_842, wd_64, wd_843, ⟨by decide, by decide⟩, by decide +kernel, by decide⟩
theorem kX8_206_8 : q_CV RX8 206 8 mX8_gather 2 := ⟨TX8, 10, rfl, wd_844, wd_845, wd_846, wd_64, wd_847, ⟨by decide, by decide⟩, by decide +kernel, by decide⟩
theorem kX8_190_8 : q_CV RX8 190 8 mX8_likeliest 1 := ⟨TX8, 10, rfl, wd_848, wd_775, wd_776, wd_64, wd_777, ⟨by decide, by decide⟩, by decide +kernel, by decide⟩
theorem kX8_199_10 : q_CV RX8 199 10 mX10_turned 2 := ⟨TX10, 4, rfl, wd_849, wd_850, wd_851, wd_65, wd_852, ⟨by decide, by decide⟩, by decide +kernel, by decide⟩
theorem kL_122_11 : q_CV RL 122 11 mX11_whose 0 := ⟨TX11, 10, rfl, wd_856, wd_857, wd_858, wd_62, wd_859, ⟨by decide, by decide⟩, by decide +kernel, by decide⟩
theorem kX11_260_8 : q_CV RX11 260 8 mX8_weighWorths 0 := ⟨TX8, 10, rfl, wd_860, wd_861, wd_862, wd_64, wd_863, ⟨by decide, by decide⟩, by decide +kernel, by decide⟩
theorem kX8_210_8 : q_CV RX8 210 8 mX8_worthOf 1 := ⟨TX8, 10, rfl, wd_864, wd_841, wd_842, wd_64, wd_843, ⟨by decide, by decide⟩, by decide +kernel, by decide⟩
theorem kX11_263_8 : q_CV RX11 263 8 mX8_firstByWorth 1 := ⟨TX8, 10, rfl, wd_865, wd_866, wd_867, wd_64, wd_868, ⟨by decide, by decide⟩, by decide +kernel, by decide⟩
theorem kL_126_11 : q_CV RL 126 11 mX11_seen 2 := ⟨TX11, 10, rfl, wd_869, wd_870, wd_871, wd_62, wd_872, ⟨by decide, by decide⟩, by decide +kernel, by decide⟩
theorem kX11_267_8 : q_CV RX11 267 8 mX8_gather 2 := ⟨TX8, 10, rfl, wd_873, wd_845, wd_846, wd_64, wd_847, ⟨by decide, by decide⟩, by decide +kernel, by decide⟩
theorem kL_130_11 : q_CV RL 130 11 mX11_sights 1 := ⟨TX11, 10, rfl, wd_874, wd_875, wd_876, wd_62, wd_877, ⟨by decide, by decide⟩, by decide +kernel, by decide⟩
theorem kX11_274_8 : q_CV RX11 274 8 mX8_howManyAbove 1 := ⟨TX8, 10, rfl, wd_878, wd_677, wd_678, wd_64, wd_679, ⟨by decide, by decide⟩, by decide +kernel, by decide⟩
theorem kL_134_11 : q_CV RL 134 11 mX11_fits 1 := ⟨TX11, 10, rfl, wd_879, wd_880, wd_881, wd_62, wd_882, ⟨by decide, by decide⟩, by decide +kernel, by decide⟩
theorem kX11_277_11 : q_CV RX11 277 11 mX11_refusedTold 1 := ⟨TX11, 10, rfl, wd_883, wd_885, wd_12, wd_62, wd_886, ⟨by decide, by decide⟩, by decide +kernel, by decide⟩
theorem kX11_280_8 : q_CV RX11 280 8 mX8_weighTold 1 := ⟨TX8, 10, rfl, wd_887, wd_888, wd_889, wd_64, wd_890, ⟨by decide, by decide⟩, by decide +kernel, by decide⟩
theorem kX11_284_8 : q_CV RX11 284 8 mX8_firstAbove 1 := ⟨TX8, 10, rfl, wd_891, wd_804, wd_805, wd_64, wd_806, ⟨by decide, by decide⟩, by decide +kernel, by decide⟩
theorem kL_138_11 : q_CV RL 138 11 mX11_chance 1 := ⟨TX11, 10, rfl, wd_892, wd_893, wd_894, wd_62, wd_895, ⟨by decide, by decide⟩, by decide +kernel, by decide⟩
theorem kX11_287_8 : q_CV RX11 287 8 mX8_waysOfTold 1 := ⟨TX8, 10, rfl, wd_896, wd_897, wd_898, wd_64, wd_899, ⟨by decide, by decide⟩, by decide +kernel, by decide⟩
theorem kL_142_11 : q_CV RL 142 11 mX11_read 1 := ⟨TX11, 10, rfl, wd_900, wd_901, wd_902, wd_62, wd_903, ⟨by decide, by decide⟩, by decide +kernel, by decide⟩
theorem kL_146_11 : q_CV RL 146 11 mX11_who 2 := ⟨TX11, 10, rfl, wd_904, wd_905, wd_906, wd_62, wd_907, ⟨by decide, by decide⟩, by decide +kernel, by decide⟩
theorem kX11_291_8 : q_CV RX11 291 8 mX8_likeliestWho 2 := ⟨TX8, 10, rfl, wd_908, wd_909, wd_910, wd_64, wd_911, ⟨by decide, by decide⟩, by decide +kernel, by decide⟩
theorem kX11_294_8 : q_CV RX11 294 8 mX8_allWho 2 := ⟨TX8, 10, rfl, wd_912, wd_913, wd_914, wd_64, wd_915, ⟨by decide, by decide⟩, by decide +kernel, by decide⟩
theorem kL_150_11 : q_CV RL 150 11 mX11_ways 3 := ⟨TX11, 10, rfl, wd_916, wd_917, wd_918, wd_62, wd_919, ⟨by decide, by decide⟩, by decide +kernel, by decide⟩
theorem kX11_297_10 : q_CV RX11 297 10 mX10_turnBetween 2 := ⟨TX10, 4, rfl, wd_920, wd_596, wd_597, wd_65, wd_598, ⟨by decide, by decide⟩, by decide +kernel, by decide⟩
theorem kX11_300_0 : q_CU RX11 300 0 mX5_timesOf 1 := ⟨RX0, TX0, 6, RX5, yX5_timesOf, rfl, wd_921, wd_606, wd_607, wd_604, wd_71, wd_612, wd_604, ⟨_, _, _, wd_612⟩, ⟨by decide, by decide⟩, by decide +kernel, by decide⟩
theorem kX11_300_1 : q_CU RX11 300 1 mX5_timesOf 1 := ⟨RX1, TX1, 6, RX5, yX5_timesOf, rfl, wd_921, wd_606, wd_608, wd_604, wd_71, wd_612, wd_604, ⟨_, _, _, wd_612⟩, ⟨by decide, by decide⟩, by decide +kernel, by decide⟩
theorem kX11_300_2 : q_CU RX11 300 2 mX5_timesOf 1 := ⟨RX2, TX2, 6, RX5, yX5_timesOf, rfl, wd_921, wd_606, wd_609, wd_604, wd_71, wd_612, wd_604, ⟨_, _, _, wd_612⟩, ⟨by decide, by decide⟩, by decide +kernel, by decide⟩
theorem kX11_300_3 : q_CU RX11 300 3 mX5_timesOf 1 := ⟨RX3, TX3, 6, RX5, yX5_timesOf, rfl, wd_921, wd_606, wd_610, wd_604, wd_71, wd_612, wd_604, ⟨_, _, _, wd_612⟩, ⟨by decide, by decide⟩, by decide +kernel, by decide⟩
theorem kX11_300_4 : q_CU RX11 300 4 mX5_timesOf 1 := ⟨RX4, TX4, 6, RX5, yX5_timesOf, rfl, wd_921, wd_606, wd_611, wd_604, wd_71, wd_612, wd_604, ⟨_, _, _, wd_612⟩, ⟨by decide, by decide⟩, by decide +kernel, by decide⟩
theorem kX11_300_5 : q_CV RX11 300 5 mX5_timesOf 1 := ⟨TX5, 6, rfl, wd_921, wd_604, wd_605, wd_71, wd_612, ⟨by decide, by decide⟩, by decide +kernel, by decide⟩
theorem kL_154_11 : q_CV RL 154 11 mX11_apart 2 := ⟨TX11, 10, rfl, wd_922, wd_923, wd_924, wd_62, wd_925, ⟨by decide, by decide⟩, by decide +kernel, by decide⟩
theorem kX11_303_10 : q_CV RX11 303 10 mX10_wheelsIn 1 := ⟨TX10, 4, rfl, wd_926, wd_550, wd_551, wd_65, wd_552, ⟨by decide, by decide⟩, by decide +kernel, by decide⟩
theorem kX11_306_10 : q_CV RX11 306 10 mX10_fewestNotchesIn 1 := ⟨TX10, 4, rfl, wd_927, wd_928, wd_929, wd_65, wd_930, ⟨by decide, by decide⟩, by decide +kernel, by decide⟩
theorem kL_158_11 : q_CV RL 158 11 mX11_near 2 := ⟨TX11, 10, rfl, wd_931, wd_932, wd_933, wd_62, wd_934, ⟨by decide, by decide⟩, by decide +kernel, by decide⟩
theorem kL_162_11 : q_CV RL 162 11 mX11_lots 2 := ⟨TX11, 10, rfl, wd_935, wd_936, wd_937, wd_62, wd_938, ⟨by decide, by decide⟩, by decide +kernel, by decide⟩
theorem kX11_313_8 : q_CV RX11 313 8 mX8_shutByLots 2 := ⟨TX8, 10, rfl, wd_940, wd_941, wd_942, wd_64, wd_943, ⟨by decide, by decide⟩, by decide +kernel, by decide⟩
theorem kX8_223 : q_CS RX8 223 mX8_nextLot 1 := ⟨wd_944, wd_945, wd_64, wd_946, ⟨by decide, by decide⟩, by decide +kernel, by decide⟩
theorem kX8_227 : q_CS RX8 227 mX8_lotAmong 2 := ⟨wd_949, wd_950, wd_64, wd_951, ⟨by decide, by decide⟩, by decide +kernel, by decide⟩
theorem kX8_235_8 : q_CV RX8 235 8 mX8_sightOf 3 := ⟨TX8, 10, rfl, wd_954, wd_956, wd_13, wd_64, wd_957, ⟨by decide, by decide⟩, by decide +kernel, by decide⟩
theorem kX8_239_8 : q_CV RX8 239 8 mX8_addDeed 2 := ⟨TX8, 10, rfl, wd_958, wd_715, wd_716, wd_64, wd_717, ⟨by decide, by decide⟩, by decide +kernel, by decide⟩
theorem kL_166_11 : q_CV RL 166 11 mX11_asked 0 := ⟨TX11, 10, rfl, wd_959, wd_960, wd_961, wd_62, wd_962, ⟨by decide, by decide⟩, by decide +kernel, by decide⟩
theorem kL_170_11 : q_CV RL 170 11 mX11_upper 0 := ⟨TX11, 10, rfl, wd_963, wd_964, wd_965, wd_62, wd_966, ⟨by decide, by decide⟩, by decide +kernel, by decide⟩
theorem kL_175_11 : q_CV RL 175 11 mX11_lower 0 := ⟨TX11, 10, rfl, wd_967, wd_968, wd_969, wd_62, wd_970, ⟨by decide, by decide⟩, by decide +kernel, by decide⟩
theorem kL_179_11 : q_CV RL 179 11 mX11_count 1 := ⟨TX11, 10, rfl, wd_971, wd_972, wd_973, wd_62, wd_974, ⟨by decide, by decide⟩, by decide +kernel, by decide⟩
theorem kX11_316_8 : q_CV RX11 316 8 mX8_howManyAny 0 := ⟨TX8, 10, rfl, wd_975, wd_976, wd_977, wd_64, wd_978, ⟨by decide, by decide⟩, by decide +kernel, by decide⟩
theorem kX11_319 : q_CS RX11 319 mX11_howManyThere 1 := ⟨wd_979, wd_980, wd_62, wd_981, ⟨by decide, by decide⟩, by decide +kernel, by decide⟩
theorem kX11_323_11 : q_CV RX11 323 11 mX11_howManyKept 0 := ⟨TX11, 10, rfl, wd_982, wd_984, wd_14, wd_62, wd_985, ⟨by decide, by decide⟩, by decide +kernel, by decide⟩
theorem kL_183_11 : q_CV RL 183 11 mX11_finding 0 := ⟨TX11, 10, rfl, wd_986, wd_987, wd_988, wd_62, wd_989, ⟨by decide, by decide⟩, by decide +kernel, by decide⟩
theorem kL_187_11 : q_CV RL 187 11 mX11_findings 1 := ⟨TX11, 10, rfl, wd_990, wd_991, wd_992, wd_62, wd_993, ⟨by decide, by decide⟩, by decide +kernel, by decide⟩
theorem kL_191_11 : q_CV RL 191 11 mX11_digest 0 := ⟨TX11, 10, rfl, wd_994, wd_995, wd_996, wd_62, wd_997, ⟨by decide, by decide⟩, by decide +kernel, by decide⟩
theorem kX11_330_11 : q_CV RX11 330 11 mX11_count 1 := ⟨TX11, 10, rfl, wd_1000, wd_972, wd_973, wd_62, wd_974, ⟨by decide, by decide⟩, by decide +kernel, by decide⟩
theorem kX11_333_11 : q_CV RX11 333 11 mX11_digestPersons 1 := ⟨TX11, 10, rfl, wd_1001, wd_1003, wd_15, wd_62, wd_1004, ⟨by decide, by decide⟩, by decide +kernel, by decide⟩
theorem kX11_337 : q_CS RX11 337 mX11_digestRows 2 := ⟨wd_1005, wd_1006, wd_62, wd_1007, ⟨by decide, by decide⟩, by decide +kernel, by decide⟩
theorem kL_12 : q_CI RL 12 mX12_init 0 := ⟨wd_1010, wd_1011, wd_69, wd_1012, rfl, rfl, ⟨by decide, by decide⟩, by decide +kernel, by decide⟩
theorem kL_17_12 : q_CV RL 17 12 mX12_row 2 := ⟨TX12, 25, rfl, wd_1090, wd_1091, wd_1092, wd_69, wd_1093, ⟨by decide, by decide⟩, by decide +kernel, by decide⟩
theorem kX12_63 : q_CS RX12 63 mX12_isRow 1 := ⟨wd_1094, wd_1095, wd_69, wd_1096, ⟨by decide, by decide⟩, by decide +kernel, by decide⟩
theorem kX12_57 : q_CS RX12 57 mX12_in 3 := ⟨wd_1098, wd_1099, wd_69, wd_1100, ⟨by decide, by decide⟩, by decide +kernel, by decide⟩
theorem kX12_67_12 : q_CV RX12 67 12 mX12_find 1 := ⟨TX12, 25, rfl, wd_1101, wd_1103, wd_16, wd_69, wd_1104, ⟨by decide, by decide⟩, by decide +kernel, by decide⟩
theorem kX12_71_12 : q_CV RX12 71 12 mX12_makeRow 2 := ⟨TX12, 25, rfl, wd_1105, wd_1107, wd_17, wd_69, wd_1108, ⟨by decide, by decide⟩, by decide +kernel, by decide⟩
theorem kL_22_12 : q_CV RL 22 12 mX12_lay 3 := ⟨TX12, 25, rfl, wd_1109, wd_1110, wd_1111, wd_69, wd_1112, ⟨by decide, by decide⟩, by decide +kernel, by decide⟩
theorem kX12_75_12 : q_CV RX12 75 12 mX12_refused 2 := ⟨TX12, 25, rfl, wd_1113, wd_1115, wd_18, wd_69, wd_1116, ⟨by decide, by decide⟩, by decide +kernel, by decide⟩
theorem kX12_79_12 : q_CV RX12 79 12 mX12_tell 1 := ⟨TX12, 25, rfl, wd_1117, wd_1119, wd_19, wd_69, wd_1120, ⟨by decide, by decide⟩, by decide +kernel, by decide⟩
theorem kL_26_12 : q_CV RL 26 12 mX12_at 2 := ⟨TX12, 25, rfl, wd_1121, wd_1122, wd_1123, wd_69, wd_1124, ⟨by decide, by decide⟩, by decide +kernel, by decide⟩
theorem kL_31_12 : q_CV RL 31 12 mX12_tear 1 := ⟨TX12, 25, rfl, wd_1125, wd_1126, wd_1127, wd_69, wd_1128, ⟨by decide, by decide⟩, by decide +kernel, by decide⟩
theorem kL_36_12 : q_CV RL 36 12 mX12_copy 5 := ⟨TX12, 25, rfl, wd_1129, wd_1130, wd_1131, wd_69, wd_1132, ⟨by decide, by decide⟩, by decide +kernel, by decide⟩
theorem kX12_82_12 : q_CV RX12 82 12 mX12_isSpan 3 := ⟨TX12, 25, rfl, wd_1133, wd_1135, wd_20, wd_69, wd_1136, ⟨by decide, by decide⟩, by decide +kernel, by decide⟩
theorem kL_40_12 : q_CV RL 40 12 mX12_mean 1 := ⟨TX12, 25, rfl, wd_1137, wd_1138, wd_1139, wd_69, wd_1140, ⟨by decide, by decide⟩, by decide +kernel, by decide⟩
theorem kL_44_12 : q_CV RL 44 12 mX12_text 2 := ⟨TX12, 25, rfl, wd_1141, wd_1142, wd_1143, wd_69, wd_1144, ⟨by decide, by decide⟩, by decide +kernel, by decide⟩
theorem kX12_86 : q_CS RX12 86 mX12_isText 1 := ⟨wd_1145, wd_1146, wd_69, wd_1147, ⟨by decide, by decide⟩, by decide +kernel, by decide⟩
theorem kL_48_12 : q_CV RL 48 12 mX12_put 3 := ⟨TX12, 25, rfl, wd_1149, wd_1150, wd_1151, wd_69, wd_1152, ⟨by decide, by decide⟩, by decide +kernel, by decide⟩
theorem kL_52_12 : q_CV RL 52 12 mX12_fault 1 := ⟨TX12, 25, rfl, wd_1153, wd_1154, wd_1155, wd_69, wd_1156, ⟨by decide, by decide⟩, by decide +kernel, by decide⟩
theorem kX12_127_12 : q_CV RX12 127 12 mX12_faultOf 1 := ⟨TX12, 25, rfl, wd_1157, wd_1159, wd_21, wd_69, wd_1160, ⟨by decide, by decide⟩, by decide +kernel, by decide⟩
theorem kX12_120_12 : q_CV RX12 120 12 mX12_readsLock 0 := ⟨TX12, 25, rfl, wd_1161, wd_1163, wd_22, wd_69, wd_1164, ⟨by decide, by decide⟩, by decide +kernel, by decide⟩
theorem kX12_102_12 : q_CV RX12 102 12 mX12_skip 0 := ⟨TX12, 25, rfl, wd_1165, wd_1167, wd_23, wd_69, wd_1168, ⟨by decide, by decide⟩, by decide +kernel, by decide⟩
theorem kX12_98_12 : q_CV RX12 98 12 mX12_here 0 := ⟨TX12, 25, rfl, wd_1169, wd_1171, wd_24, wd_69, wd_1172, ⟨by decide, by decide⟩, by decide +kernel, by decide⟩
theorem kX12_105_12 : q_CV RX12 105 12 mX12_figure 2 := ⟨TX12, 25, rfl, wd_1173, wd_1175, wd_25, wd_69, wd_1176, ⟨by decide, by decide⟩, by decide +kernel, by decide⟩
theorem kX12_124_12 : q_CV RX12 124 12 mX12_readsPerson 0 := ⟨TX12, 25, rfl, wd_1177, wd_1179, wd_26, wd_69, wd_1180, ⟨by decide, by decide⟩, by decide +kernel, by decide⟩
theorem kX12_114 : q_CS RX12 114 mX12_kindOfLetter 1 := ⟨wd_1181, wd_1182, wd_69, wd_1183, ⟨by decide, by decide⟩, by decide +kernel, by decide⟩
theorem kL_56_12 : q_CV RL 56 12 mX12_shed 1 := ⟨TX12, 25, rfl, wd_1184, wd_1185, wd_1186, wd_69, wd_1187, ⟨by decide, by decide⟩, by decide +kernel, by decide⟩
theorem kX12_136 : q_CS RX12 136 mX12_power 2 := ⟨wd_1188, wd_1189, wd_69, wd_1190, ⟨by decide, by decide⟩, by decide +kernel, by decide⟩
theorem kX12_145_12 : q_CV RX12 145 12 mX12_layWeights 0 := ⟨TX12, 25, rfl, wd_1191, wd_1193, wd_27, wd_69, wd_1194, ⟨by decide, by decide⟩, by decide +kernel, by decide⟩
theorem kX12_173_12 : q_CV RX12 173 12 mX12_weightBy 4 := ⟨TX12, 25, rfl, wd_1195, wd_1197, wd_28, wd_69, wd_1198, ⟨by decide, by decide⟩, by decide +kernel, by decide⟩
theorem kX12_170_12 : q_CV RX12 170 12 mX12_waysOf 3 := ⟨TX12, 25, rfl, wd_1199, wd_1201, wd_29, wd_69, wd_1202, ⟨by decide, by decide⟩, by decide +kernel, by decide⟩
theorem kX12_161_12 : q_CV RX12 161 12 mX12_anyWays 3 := ⟨TX12, 25, rfl, wd_1203, wd_1205, wd_30, wd_69, wd_1206, ⟨by decide, by decide⟩, by decide +kernel, by decide⟩
theorem kX12_157_12 : q_CV RX12 157 12 mX12_up 3 := ⟨TX12, 25, rfl, wd_1207, wd_1209, wd_31, wd_69, wd_1210, ⟨by decide, by decide⟩, by decide +kernel, by decide⟩
theorem kX12_148_12 : q_CV RX12 148 12 mX12_notch 2 := ⟨TX12, 25, rfl, wd_1211, wd_1213, wd_32, wd_69, wd_1214, ⟨by decide, by decide⟩, by decide +kernel, by decide⟩
theorem kX12_151_12 : q_CV RX12 151 12 mX12_flicksOf 1 := ⟨TX12, 25, rfl, wd_1215, wd_1217, wd_33, wd_69, wd_1218, ⟨by decide, by decide⟩, by decide +kernel, by decide⟩
theorem kX12_164_12 : q_CV RX12 164 12 mX12_wheelWays 3 := ⟨TX12, 25, rfl, wd_1219, wd_1221, wd_34, wd_69, wd_1222, ⟨by decide, by decide⟩, by decide +kernel, by decide⟩
theorem kX12_154_12 : q_CV RX12 154 12 mX12_eithers 2 := ⟨TX12, 25, rfl, wd_1223, wd_1225, wd_35, wd_69, wd_1226, ⟨by decide, by decide⟩, by decide +kernel, by decide⟩
theorem kL_60_12 : q_CV RL 60 12 mX12_person 2 := ⟨TX12, 25, rfl, wd_1227, wd_1228, wd_1229, wd_69, wd_1230, ⟨by decide, by decide⟩, by decide +kernel, by decide⟩
theorem kX12_183_12 : q_CV RX12 183 12 mX12_isPerson 1 := ⟨TX12, 25, rfl, wd_1231, wd_1233, wd_36, wd_69, wd_1234, ⟨by decide, by decide⟩, by decide +kernel, by decide⟩
theorem kX12_186_12 : q_CV RX12 186 12 mX12_toldOf 2 := ⟨TX12, 25, rfl, wd_1235, wd_1237, wd_37, wd_69, wd_1238, ⟨by decide, by decide⟩, by decide +kernel, by decide⟩
theorem kX12_177_12 : q_CV RX12 177 12 mX12_waysInAll 1 := ⟨TX12, 25, rfl, wd_1239, wd_1241, wd_38, wd_69, wd_1242, ⟨by decide, by decide⟩, by decide +kernel, by decide⟩
theorem kX12_167_12 : q_CV RX12 167 12 mX12_twoAtMost 0 := ⟨TX12, 25, rfl, wd_1243, wd_1245, wd_39, wd_69, wd_1246, ⟨by decide, by decide⟩, by decide +kernel, by decide⟩
theorem kX12_180_12 : q_CV RX12 180 12 mX12_lookedAt 1 := ⟨TX12, 25, rfl, wd_1247, wd_1249, wd_40, wd_69, wd_1250, ⟨by decide, by decide⟩, by decide +kernel, by decide⟩
theorem kL_64_12 : q_CV RL 64 12 mX12_mark 2 := ⟨TX12, 25, rfl, wd_1251, wd_1252, wd_1253, wd_69, wd_1254, ⟨by decide, by decide⟩, by decide +kernel, by decide⟩
theorem kX12_189_12 : q_CV RX12 189 12 mX12_isOf 2 := ⟨TX12, 25, rfl, wd_1255, wd_1257, wd_41, wd_69, wd_1258, ⟨by decide, by decide⟩, by decide +kernel, by decide⟩
theorem kX12_193_12 : q_CV RX12 193 12 mX12_sightsFrom 1 := ⟨TX12, 25, rfl, wd_1259, wd_1261, wd_42, wd_69, wd_1262, ⟨by decide, by decide⟩, by decide +kernel, by decide⟩
theorem kX12_196_12 : q_CV RX12 196 12 mX12_waysThatLeave 1 := ⟨TX12, 25, rfl, wd_1263, wd_1265, wd_43, wd_69, wd_1266, ⟨by decide, by decide⟩, by decide +kernel, by decide⟩
theorem kX12_199_12 : q_CV RX12 199 12 mX12_possible 0 := ⟨TX12, 25, rfl, wd_1267, wd_1269, wd_44, wd_69, wd_1270, ⟨by decide, by decide⟩, by decide +kernel, by decide⟩
theorem kX12_202_12 : q_CV RX12 202 12 mX12_notchesInAll 1 := ⟨TX12, 25, rfl, wd_1271, wd_1273, wd_45, wd_69, wd_1274, ⟨by decide, by decide⟩, by decide +kernel, by decide⟩
theorem kL_68_12 : q_CV RL 68 12 mX12_flicks 2 := ⟨TX12, 25, rfl, wd_1275, wd_1276, wd_1277, wd_69, wd_1278, ⟨by decide, by decide⟩, by decide +kernel, by decide⟩
theorem kL_72_12 : q_CV RL 72 12 mX12_look 2 := ⟨TX12, 25, rfl, wd_1279, wd_1280, wd_1281, wd_69, wd_1282, ⟨by decide, by decide⟩, by decide +kernel, by decide⟩
theorem kX12_205_12 : q_CV RX12 205 12 mX12_isSetting 1 := ⟨TX12, 25, rfl, wd_1283, wd_1285, wd_46, wd_69, wd_1286, ⟨by decide, by decide⟩, by decide +kernel, by decide⟩
theorem kX12_208_12 : q_CV RX12 208 12 mX12_doDeed 2 := ⟨TX12, 25, rfl, wd_1287, wd_1289, wd_47, wd_69, wd_1290, ⟨by decide, by decide⟩, by decide +kernel, by decide⟩
theorem kL_76_12 : q_CV RL 76 12 mX12_vain 1 := ⟨TX12, 25, rfl, wd_1291, wd_1292, wd_1293, wd_69, wd_1294, ⟨by decide, by decide⟩, by decide +kernel, by decide⟩
theorem kL_80_12 : q_CV RL 80 12 mX12_undo 1 := ⟨TX12, 25, rfl, wd_1295, wd_1296, wd_1297, wd_69, wd_1298, ⟨by decide, by decide⟩, by decide +kernel, by decide⟩
theorem kL_84_12 : q_CV RL 84 12 mX12_keep 1 := ⟨TX12, 25, rfl, wd_1299, wd_1300, wd_1301, wd_69, wd_1302, ⟨by decide, by decide⟩, by decide +kernel, by decide⟩
theorem kX12_213_12 : q_CV RX12 213 12 mX12_copyShed 2 := ⟨TX12, 25, rfl, wd_1304, wd_1306, wd_48, wd_69, wd_1307, ⟨by decide, by decide⟩, by decide +kernel, by decide⟩
theorem kL_88_12 : q_CV RL 88 12 mX12_on 1 := ⟨TX12, 25, rfl, wd_1308, wd_1309, wd_1310, wd_69, wd_1311, ⟨by decide, by decide⟩, by decide +kernel, by decide⟩
theorem kL_92_12 : q_CV RL 92 12 mX12_likely 1 := ⟨TX12, 25, rfl, wd_1312, wd_1313, wd_1314, wd_69, wd_1315, ⟨by decide, by decide⟩, by decide +kernel, by decide⟩
theorem kX12_219_12 : q_CV RX12 219 12 mX12_allWeights 0 := ⟨TX12, 25, rfl, wd_1316, wd_1318, wd_49, wd_69, wd_1319, ⟨by decide, by decide⟩, by decide +kernel, by decide⟩
theorem kX12_223_12 : q_CV RX12 223 12 mX12_tellParts 2 := ⟨TX12, 25, rfl, wd_1320, wd_1322, wd_50, wd_69, wd_1323, ⟨by decide, by decide⟩, by decide +kernel, by decide⟩
theorem kL_97_12 : q_CV RL 97 12 mX12_best 0 := ⟨TX12, 25, rfl, wd_1324, wd_1325, wd_1326, wd_69, wd_1327, ⟨by decide, by decide⟩, by decide +kernel, by decide⟩
theorem kL_101_12 : q_CV RL 101 12 mX12_wheel 2 := ⟨TX12, 25, rfl, wd_1328, wd_1329, wd_1330, wd_69, wd_1331, ⟨by decide, by decide⟩, by decide +kernel, by decide⟩
theorem kX12_227_12 : q_CV RX12 227 12 mX12_weightsAt 2 := ⟨TX12, 25, rfl, wd_1332, wd_1334, wd_51, wd_69, wd_1335, ⟨by decide, by decide⟩, by decide +kernel, by decide⟩
theorem kL_105_12 : q_CV RL 105 12 mX12_certain 0 := ⟨TX12, 25, rfl, wd_1336, wd_1337, wd_1338, wd_69, wd_1339, ⟨by decide, by decide⟩, by decide +kernel, by decide⟩
theorem kL_109_12 : q_CV RL 109 12 mX12_order 2 := ⟨TX12, 25, rfl, wd_1340, wd_1341, wd_1342, wd_69, wd_1343, ⟨by decide, by decide⟩, by decide +kernel, by decide⟩
theorem kX12_233_12 : q_CV RX12 233 12 mX12_laySorted 0 := ⟨TX12, 25, rfl, wd_1345, wd_1347, wd_52, wd_69, wd_1348, ⟨by decide, by decide⟩, by decide +kernel, by decide⟩
theorem kL_113_12 : q_CV RL 113 12 mX12_tries 0 := ⟨TX12, 25, rfl, wd_1349, wd_1350, wd_1351, wd_69, wd_1352, ⟨by decide, by decide⟩, by decide +kernel, by decide⟩
theorem kL_117_12 : q_CV RL 117 12 mX12_within 1 := ⟨TX12, 25, rfl, wd_1353, wd_1354, wd_1355, wd_69, wd_1356, ⟨by decide, by decide⟩, by decide +kernel, by decide⟩
theorem kL_121_12 : q_CV RL 121 12 mX12_worth 1 := ⟨TX12, 25, rfl, wd_1358, wd_1359, wd_1360, wd_69, wd_1361, ⟨by decide, by decide⟩, by decide +kernel, by decide⟩
theorem kX12_238_12 : q_CV RX12 238 12 mX12_worthOf 1 := ⟨TX12, 25, rfl, wd_1362, wd_1364, wd_53, wd_69, wd_1365, ⟨by decide, by decide⟩, by decide +kernel, by decide⟩
theorem kL_125_12 : q_CV RL 125 12 mX12_whose 0 := ⟨TX12, 25, rfl, wd_1366, wd_1367, wd_1368, wd_69, wd_1369, ⟨by decide, by decide⟩, by decide +kernel, by decide⟩
theorem kL_129_12 : q_CV RL 129 12 mX12_seen 2 := ⟨TX12, 25, rfl, wd_1370, wd_1371, wd_1372, wd_69, wd_1373, ⟨by decide, by decide⟩, by decide +kernel, by decide⟩
theorem kX12_242_12 : q_CV RX12 242 12 mX12_seenBy 2 := ⟨TX12, 25, rfl, wd_1374, wd_1376, wd_54, wd_69, wd_1377, ⟨by decide, by decide⟩, by decide +kernel, by decide⟩
theorem kL_133_12 : q_CV RL 133 12 mX12_sights 1 := ⟨TX12, 25, rfl, wd_1378, wd_1379, wd_1380, wd_69, wd_1381, ⟨by decide, by decide⟩, by decide +kernel, by decide⟩
theorem kL_137_12 : q_CV RL 137 12 mX12_fits 1 := ⟨TX12, 25, rfl, wd_1382, wd_1383, wd_1384, wd_69, wd_1385, ⟨by decide, by decide⟩, by decide +kernel, by decide⟩
theorem kX12_245_12 : q_CV RX12 245 12 mX12_noLooks 1 := ⟨TX12, 25, rfl, wd_1386, wd_1388, wd_55, wd_69, wd_1389, ⟨by decide, by decide⟩, by decide +kernel, by decide⟩
theorem kL_141_12 : q_CV RL 141 12 mX12_chance 1 := ⟨TX12, 25, rfl, wd_1390, wd_1391, wd_1392, wd_69, wd_1393, ⟨by decide, by decide⟩, by decide +kernel, by decide⟩
theorem kL_145_12 : q_CV RL 145 12 mX12_read 1 := ⟨TX12, 25, rfl, wd_1394, wd_1395, wd_1396, wd_69, wd_1397, ⟨by decide, by decide⟩, by decide +kernel, by decide⟩
theorem kL_149_12 : q_CV RL 149 12 mX12_who 2 := ⟨TX12, 25, rfl, wd_1398, wd_1399, wd_1400, wd_69, wd_1401, ⟨by decide, by decide⟩, by decide +kernel, by decide⟩
theorem kL_153_12 : q_CV RL 153 12 mX12_ways 3 := ⟨TX12, 25, rfl, wd_1402, wd_1403, wd_1404, wd_69, wd_1405, ⟨by decide, by decide⟩, by decide +kernel, by decide⟩
theorem kL_157_12 : q_CV RL 157 12 mX12_apart 2 := ⟨TX12, 25, rfl, wd_1406, wd_1407, wd_1408, wd_69, wd_1409, ⟨by decide, by decide⟩, by decide +kernel, by decide⟩
theorem kX12_248_12 : q_CV RX12 248 12 mX12_far 2 := ⟨TX12, 25, rfl, wd_1410, wd_1412, wd_56, wd_69, wd_1413, ⟨by decide, by decide⟩, by decide +kernel, by decide⟩
theorem kL_161_12 : q_CV RL 161 12 mX12_near 2 := ⟨TX12, 25, rfl, wd_1414, wd_1415, wd_1416, wd_69, wd_1417, ⟨by decide, by decide⟩, by decide +kernel, by decide⟩
theorem kL_165_12 : q_CV RL 165 12 mX12_lots 2 := ⟨TX12, 25, rfl, wd_1419, wd_1420, wd_1421, wd_69, wd_1422, ⟨by decide, by decide⟩, by decide +kernel, by decide⟩
theorem kX12_265_12 : q_CV RX12 265 12 mX12_broughtTo 3 := ⟨TX12, 25, rfl, wd_1429, wd_1431, wd_57, wd_69, wd_1432, ⟨by decide, by decide⟩, by decide +kernel, by decide⟩
theorem kL_169_12 : q_CV RL 169 12 mX12_asked 0 := ⟨TX12, 25, rfl, wd_1433, wd_1434, wd_1435, wd_69, wd_1436, ⟨by decide, by decide⟩, by decide +kernel, by decide⟩
theorem kL_174_12 : q_CV RL 174 12 mX12_upper 0 := ⟨TX12, 25, rfl, wd_1437, wd_1438, wd_1439, wd_69, wd_1440, ⟨by decide, by decide⟩, by decide +kernel, by decide⟩
theorem kL_178_12 : q_CV RL 178 12 mX12_lower 0 := ⟨TX12, 25, rfl, wd_1441, wd_1442, wd_1443, wd_69, wd_1444, ⟨by decide, by decide⟩, by decide +kernel, by decide⟩
theorem kL_182_12 : q_CV RL 182 12 mX12_count 1 := ⟨TX12, 25, rfl, wd_1445, wd_1446, wd_1447, wd_69, wd_1448, ⟨by decide, by decide⟩, by decide +kernel, by decide⟩
theorem kX12_274_12 : q_CV RX12 274 12 mX12_countOf 1 := ⟨TX12, 25, rfl, wd_1449, wd_1451, wd_58, wd_69, wd_1452, ⟨by decide, by decide⟩, by decide +kernel, by decide⟩
theorem kX12_268_12 : q_CV RX12 268 12 mX12_anys 0 := ⟨TX12, 25, rfl, wd_1453, wd_1455, wd_59, wd_69, wd_1456, ⟨by decide, by decide⟩, by decide +kernel, by decide⟩
theorem kX12_271_12 : q_CV RX12 271 12 mX12_thereOf 1 := ⟨TX12, 25, rfl, wd_1457, wd_1459, wd_60, wd_69, wd_1460, ⟨by decide, by decide⟩, by decide +kernel, by decide⟩
theorem kL_186_12 : q_CV RL 186 12 mX12_finding 0 := ⟨TX12, 25, rfl, wd_1461, wd_1462, wd_1463, wd_69, wd_1464, ⟨by decide, by decide⟩, by decide +kernel, by decide⟩
theorem kL_190_12 : q_CV RL 190 12 mX12_findings 1 := ⟨TX12, 25, rfl, wd_1465, wd_1466, wd_1467, wd_69, wd_1468, ⟨by decide, by decide⟩, by decide +kernel, by decide⟩
theorem kL_194_12 : q_CV RL 194 12 mX12_digest 0 := ⟨TX12, 25, rfl, wd_1469, wd_1470, wd_1471, wd_69, wd_1472, ⟨by decide, by decide⟩, by decide +kernel, by decide⟩
theorem kX11_26 : q_CN RX11 26 mX6_init RX11 0 := ⟨by decide +kernel, wd_92, wd_63, wd_93, rfl, rfl, ⟨by decide, by decide⟩, by decide +kernel, by decide⟩
theorem kX11_33 : q_CN RX11 33 mX8_init RX11 0 := ⟨by decide +kernel, wd_120, wd_64, wd_121, rfl, rfl, ⟨by decide, by decide⟩, by decide +kernel, by decide⟩
theorem kX8_17 : q_CN RX8 17 mX10_init RX11 0 := ⟨by decide +kernel, wd_126, wd_65, wd_127, rfl, rfl, ⟨by decide, by decide⟩, by decide +kernel, by decide⟩
