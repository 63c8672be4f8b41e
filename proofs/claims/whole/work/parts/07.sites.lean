abbrev hX0_init : mmY := (yX0_init, cX0_init, 1, (Option.none : Option Jvm.ClassFile.FieldType))
abbrev hX0_remember : mmY := (yX0_remember, cX0_remember, 2, (Option.none : Option Jvm.ClassFile.FieldType))
abbrev hX0_takeBack : mmY := (yX0_takeBack, cX0_takeBack, 2, (Option.some Jvm.ClassFile.FieldType.boolean))
abbrev hX0_forgetAll : mmY := (yX0_forgetAll, cX0_forgetAll, 1, (Option.none : Option Jvm.ClassFile.FieldType))
abbrev hX1_init : mmY := (yX1_init, cX1_init, 1, (Option.none : Option Jvm.ClassFile.FieldType))
abbrev hX1_isHusk : mmY := (yX1_isHusk, cX1_isHusk, 2, (Option.some Jvm.ClassFile.FieldType.boolean))
abbrev hX1_isThrower : mmY := (yX1_isThrower, cX1_isThrower, 2, (Option.some Jvm.ClassFile.FieldType.boolean))
abbrev hX1_readFrom : mmY := (yX1_readFrom, cX1_readFrom, 4, (Option.some Jvm.ClassFile.FieldType.int))
abbrev hX1_readPart : mmY := (yX1_readPart, cX1_readPart, 3, (Option.some Jvm.ClassFile.FieldType.int))
abbrev hX1_readHusk : mmY := (yX1_readHusk, cX1_readHusk, 6, (Option.some Jvm.ClassFile.FieldType.int))
abbrev hX1_readThrower : mmY := (yX1_readThrower, cX1_readThrower, 6, (Option.some Jvm.ClassFile.FieldType.int))
abbrev hX1_readLaw : mmY := (yX1_readLaw, cX1_readLaw, 6, (Option.some Jvm.ClassFile.FieldType.int))
abbrev hX1_huskAt : mmY := (yX1_huskAt, cX1_huskAt, 3, (Option.some Jvm.ClassFile.FieldType.int))
abbrev hX1_loosensBy : mmY := (yX1_loosensBy, cX1_loosensBy, 2, (Option.some Jvm.ClassFile.FieldType.int))
abbrev hX1_landing : mmY := (yX1_landing, cX1_landing, 6, (Option.some Jvm.ClassFile.FieldType.int))
abbrev hX1_reaches : mmY := (yX1_reaches, cX1_reaches, 4, (Option.some Jvm.ClassFile.FieldType.boolean))
abbrev hX1_astray : mmY := (yX1_astray, cX1_astray, 5, (Option.some Jvm.ClassFile.FieldType.int))
abbrev hX1_drift : mmY := (yX1_drift, cX1_drift, 3, (Option.some Jvm.ClassFile.FieldType.int))
abbrev hX2_init : mmY := (yX2_init, cX2_init, 1, (Option.none : Option Jvm.ClassFile.FieldType))
abbrev hX2_waysDown : mmY := (yX2_waysDown, cX2_waysDown, 5, (Option.some Jvm.ClassFile.FieldType.int))
abbrev hX2_allWays : mmY := (yX2_allWays, cX2_allWays, 3, (Option.some Jvm.ClassFile.FieldType.int))
abbrev hX2_waysFrom : mmY := (yX2_waysFrom, cX2_waysFrom, 10, (Option.some Jvm.ClassFile.FieldType.int))
abbrev hX2_startFrom : mmY := (yX2_startFrom, cX2_startFrom, 2, (Option.none : Option Jvm.ClassFile.FieldType))
abbrev hX2_downBehindDrawn : mmY := (yX2_downBehindDrawn, cX2_downBehindDrawn, 4, (Option.some Jvm.ClassFile.FieldType.int))
abbrev hX3_init : mmY := (yX3_init, cX3_init, 1, (Option.none : Option Jvm.ClassFile.FieldType))
abbrev hX3_settle : mmY := (yX3_settle, cX3_settle, 5, (Option.none : Option Jvm.ClassFile.FieldType))
abbrev hX3_weigh : mmY := (yX3_weigh, cX3_weigh, 7, (Option.none : Option Jvm.ClassFile.FieldType))
abbrev hX3_costOf : mmY := (yX3_costOf, cX3_costOf, 5, (Option.some Jvm.ClassFile.FieldType.int))
abbrev hX3_isRest : mmY := (yX3_isRest, cX3_isRest, 6, (Option.some Jvm.ClassFile.FieldType.boolean))
abbrev hX4_init : mmY := (yX4_init, cX4_init, 1, (Option.none : Option Jvm.ClassFile.FieldType))
abbrev hX4_downBehind : mmY := (yX4_downBehind, cX4_downBehind, 6, (Option.some Jvm.ClassFile.FieldType.int))
abbrev hX4_firstRow : mmY := (yX4_firstRow, cX4_firstRow, 5, (Option.some Jvm.ClassFile.FieldType.int))
abbrev hX4_rowFrom : mmY := (yX4_rowFrom, cX4_rowFrom, 9, (Option.some Jvm.ClassFile.FieldType.int))
abbrev hX4_matchAmong : mmY := (yX4_matchAmong, cX4_matchAmong, 4, (Option.some Jvm.ClassFile.FieldType.int))
abbrev hX4_matchFrom : mmY := (yX4_matchFrom, cX4_matchFrom, 8, (Option.none : Option Jvm.ClassFile.FieldType))
abbrev hX4_weigh : mmY := (yX4_weigh, cX4_weigh, 3, (Option.none : Option Jvm.ClassFile.FieldType))
abbrev hX4_fewestNails : mmY := (yX4_fewestNails, cX4_fewestNails, 7, (Option.some Jvm.ClassFile.FieldType.int))
abbrev hX4_staysUp : mmY := (yX4_staysUp, cX4_staysUp, 7, (Option.some Jvm.ClassFile.FieldType.boolean))
abbrev hX4_firstThatCanNotBe : mmY := (yX4_firstThatCanNotBe, cX4_firstThatCanNotBe, 7, (Option.some Jvm.ClassFile.FieldType.int))
abbrev hX4_couldBeDone : mmY := (yX4_couldBeDone, cX4_couldBeDone, 5, (Option.some Jvm.ClassFile.FieldType.boolean))
abbrev hX5_init : mmY := (yX5_init, cX5_init, 1, (Option.none : Option Jvm.ClassFile.FieldType))
abbrev hX5_append : mmY := (yX5_append, cX5_append, 4, (Option.some Jvm.ClassFile.FieldType.boolean))
abbrev hX5_holdsOf : mmY := (yX5_holdsOf, cX5_holdsOf, 5, (Option.some Jvm.ClassFile.FieldType.int))
abbrev hX5_agree : mmY := (yX5_agree, cX5_agree, 5, (Option.some Jvm.ClassFile.FieldType.boolean))
abbrev hX6_init : mmY := (yX6_init, cX6_init, 1, (Option.none : Option Jvm.ClassFile.FieldType))
abbrev hX6_put : mmY := (yX6_put, cX6_put, 3, (Option.some Jvm.ClassFile.FieldType.boolean))
abbrev hX6_get : mmY := (yX6_get, cX6_get, 3, (Option.some Jvm.ClassFile.FieldType.boolean))
abbrev hX6_forgetAll : mmY := (yX6_forgetAll, cX6_forgetAll, 2, (Option.none : Option Jvm.ClassFile.FieldType))
abbrev hX7_init : mmY := (yX7_init, cX7_init, 1, (Option.none : Option Jvm.ClassFile.FieldType))
abbrev hX7_makeAnew : mmY := (yX7_makeAnew, cX7_makeAnew, 3, (Option.none : Option Jvm.ClassFile.FieldType))
abbrev hX7_becomeAs : mmY := (yX7_becomeAs, cX7_becomeAs, 2, (Option.none : Option Jvm.ClassFile.FieldType))
abbrev hX7_isUp : mmY := (yX7_isUp, cX7_isUp, 2, (Option.some Jvm.ClassFile.FieldType.boolean))
abbrev hX7_howManyDown : mmY := (yX7_howManyDown, cX7_howManyDown, 1, (Option.some Jvm.ClassFile.FieldType.int))
abbrev hX7_firmness : mmY := (yX7_firmness, cX7_firmness, 4, (Option.some Jvm.ClassFile.FieldType.int))
abbrev hX7_setUp : mmY := (yX7_setUp, cX7_setUp, 3, (Option.some Jvm.ClassFile.FieldType.boolean))
abbrev hX7_turnNail : mmY := (yX7_turnNail, cX7_turnNail, 2, (Option.some Jvm.ClassFile.FieldType.boolean))
abbrev hX7_takePenny : mmY := (yX7_takePenny, cX7_takePenny, 1, (Option.some Jvm.ClassFile.FieldType.boolean))
abbrev hX7_throwBy : mmY := (yX7_throwBy, cX7_throwBy, 6, (Option.some Jvm.ClassFile.FieldType.int))
abbrev hX7_canBeThrownAt : mmY := (yX7_canBeThrownAt, cX7_canBeThrownAt, 4, (Option.some Jvm.ClassFile.FieldType.boolean))
abbrev hX7_strike : mmY := (yX7_strike, cX7_strike, 4, (Option.some Jvm.ClassFile.FieldType.int))
abbrev hX7_fall : mmY := (yX7_fall, cX7_fall, 8, (Option.some Jvm.ClassFile.FieldType.int))
abbrev hX8_init : mmY := (yX8_init, cX8_init, 1, (Option.none : Option Jvm.ClassFile.FieldType))
abbrev hX8_append : mmY := (yX8_append, cX8_append, 2, (Option.some Jvm.ClassFile.FieldType.boolean))
abbrev hX8_letterAt : mmY := (yX8_letterAt, cX8_letterAt, 2, (Option.some Jvm.ClassFile.FieldType.int))
abbrev hX8_figureAt : mmY := (yX8_figureAt, cX8_figureAt, 5, (Option.some Jvm.ClassFile.FieldType.int))
abbrev hX9_init : mmY := (yX9_init, cX9_init, 1, (Option.none : Option Jvm.ClassFile.FieldType))
abbrev hX9_write : mmY := (yX9_write, cX9_write, 2, (Option.some Jvm.ClassFile.FieldType.int))
abbrev hX9_wipe : mmY := (yX9_wipe, cX9_wipe, 2, (Option.some Jvm.ClassFile.FieldType.int))
abbrev hX9_fault : mmY := (yX9_fault, cX9_fault, 1, (Option.some Jvm.ClassFile.FieldType.int))
abbrev hX9_fair : mmY := (yX9_fair, cX9_fair, 2, (Option.some Jvm.ClassFile.FieldType.int))
abbrev hX9_about : mmY := (yX9_about, cX9_about, 2, (Option.some Jvm.ClassFile.FieldType.int))
abbrev hX9_husk : mmY := (yX9_husk, cX9_husk, 3, (Option.some Jvm.ClassFile.FieldType.int))
abbrev hX9_thrower : mmY := (yX9_thrower, cX9_thrower, 3, (Option.some Jvm.ClassFile.FieldType.int))
abbrev hX9_lands : mmY := (yX9_lands, cX9_lands, 5, (Option.some Jvm.ClassFile.FieldType.int))
abbrev hX9_toss : mmY := (yX9_toss, cX9_toss, 5, (Option.some Jvm.ClassFile.FieldType.int))
abbrev hX9_set : mmY := (yX9_set, cX9_set, 2, (Option.some Jvm.ClassFile.FieldType.int))
abbrev hX9_nail : mmY := (yX9_nail, cX9_nail, 2, (Option.some Jvm.ClassFile.FieldType.int))
abbrev hX9_pay : mmY := (yX9_pay, cX9_pay, 1, (Option.some Jvm.ClassFile.FieldType.int))
abbrev hX9_blow : mmY := (yX9_blow, cX9_blow, 3, (Option.some Jvm.ClassFile.FieldType.int))
abbrev hX9_undo : mmY := (yX9_undo, cX9_undo, 1, (Option.some Jvm.ClassFile.FieldType.int))
abbrev hX9_felled : mmY := (yX9_felled, cX9_felled, 5, (Option.some Jvm.ClassFile.FieldType.int))
abbrev hX9_fewest : mmY := (yX9_fewest, cX9_fewest, 5, (Option.some Jvm.ClassFile.FieldType.int))
abbrev hX9_winds : mmY := (yX9_winds, cX9_winds, 5, (Option.some Jvm.ClassFile.FieldType.int))
abbrev hX9_match : mmY := (yX9_match, cX9_match, 2, (Option.some Jvm.ClassFile.FieldType.int))
abbrev hX9_nails : mmY := (yX9_nails, cX9_nails, 2, (Option.some Jvm.ClassFile.FieldType.int))
abbrev hX9_judge : mmY := (yX9_judge, cX9_judge, 3, (Option.some Jvm.ClassFile.FieldType.int))
abbrev hX9_share : mmY := (yX9_share, cX9_share, 7, (Option.some Jvm.ClassFile.FieldType.int))
abbrev hX9_see : mmY := (yX9_see, cX9_see, 4, (Option.some Jvm.ClassFile.FieldType.int))
abbrev hX9_unsee : mmY := (yX9_unsee, cX9_unsee, 2, (Option.some Jvm.ClassFile.FieldType.int))
abbrev hX9_holds : mmY := (yX9_holds, cX9_holds, 2, (Option.some Jvm.ClassFile.FieldType.int))
abbrev hX9_rests : mmY := (yX9_rests, cX9_rests, 2, (Option.some Jvm.ClassFile.FieldType.int))
abbrev hX9_odds : mmY := (yX9_odds, cX9_odds, 7, (Option.some Jvm.ClassFile.FieldType.int))
abbrev hX9_seed : mmY := (yX9_seed, cX9_seed, 5, (Option.some Jvm.ClassFile.FieldType.long))
abbrev hX9_fairs : mmY := (yX9_fairs, cX9_fairs, 4, (Option.some Jvm.ClassFile.FieldType.int))
abbrev hX9_keep : mmY := (yX9_keep, cX9_keep, 2, (Option.some Jvm.ClassFile.FieldType.int))
abbrev hX9_again : mmY := (yX9_again, cX9_again, 2, (Option.some Jvm.ClassFile.FieldType.int))
abbrev hX9_refusalOfThrow : mmY := (yX9_refusalOfThrow, cX9_refusalOfThrow, 4, (Option.some Jvm.ClassFile.FieldType.int))
abbrev hX9_isPlace : mmY := (yX9_isPlace, cX9_isPlace, 1, (Option.some Jvm.ClassFile.FieldType.boolean))
abbrev hX9_bit : mmY := (yX9_bit, cX9_bit, 2, (Option.some Jvm.ClassFile.FieldType.int))
abbrev hX9_newStands : mmY := (yX9_newStands, cX9_newStands, 3, (Option.some (Jvm.ClassFile.FieldType.array (Jvm.ClassFile.FieldType.object "CoconutShies$Stand"))))
abbrev hX9_ordersOf : mmY := (yX9_ordersOf, cX9_ordersOf, 1, (Option.some Jvm.ClassFile.FieldType.int))
abbrev hX9_hundreds : mmY := (yX9_hundreds, cX9_hundreds, 1, (Option.some Jvm.ClassFile.FieldType.int))
abbrev hX9_inLeastTerms : mmY := (yX9_inLeastTerms, cX9_inLeastTerms, 4, (Option.some Jvm.ClassFile.FieldType.int))
abbrev hX9_commonDivisor : mmY := (yX9_commonDivisor, cX9_commonDivisor, 6, (Option.some Jvm.ClassFile.FieldType.int))
abbrev hX10_init : mmY := (yX10_init, cX10_init, 1, (Option.none : Option Jvm.ClassFile.FieldType))
abbrev hX10_in : mmY := (yX10_in, cX10_in, 6, (Option.some Jvm.ClassFile.FieldType.boolean))
abbrev hX10_has : mmY := (yX10_has, cX10_has, 2, (Option.some Jvm.ClassFile.FieldType.boolean))
abbrev hX10_many : mmY := (yX10_many, cX10_many, 3, (Option.some Jvm.ClassFile.FieldType.int))
abbrev hX10_noHusk : mmY := (yX10_noHusk, cX10_noHusk, 2, (Option.some Jvm.ClassFile.FieldType.boolean))
abbrev hX10_noThrower : mmY := (yX10_noThrower, cX10_noThrower, 2, (Option.some Jvm.ClassFile.FieldType.boolean))
abbrev hX10_write : mmY := (yX10_write, cX10_write, 2, (Option.some Jvm.ClassFile.FieldType.int))
abbrev hX10_wipe : mmY := (yX10_wipe, cX10_wipe, 2, (Option.some Jvm.ClassFile.FieldType.int))
abbrev hX10_figure : mmY := (yX10_figure, cX10_figure, 3, (Option.some Jvm.ClassFile.FieldType.int))
abbrev hX10_readPlace : mmY := (yX10_readPlace, cX10_readPlace, 4, (Option.some Jvm.ClassFile.FieldType.int))
abbrev hX10_readOneHusk : mmY := (yX10_readOneHusk, cX10_readOneHusk, 4, (Option.some Jvm.ClassFile.FieldType.boolean))
abbrev hX10_readOneThrower : mmY := (yX10_readOneThrower, cX10_readOneThrower, 4, (Option.some Jvm.ClassFile.FieldType.boolean))
abbrev hX10_readOneLaw : mmY := (yX10_readOneLaw, cX10_readOneLaw, 4, (Option.some Jvm.ClassFile.FieldType.boolean))
abbrev hX10_readPart : mmY := (yX10_readPart, cX10_readPart, 2, (Option.some Jvm.ClassFile.FieldType.boolean))
abbrev hX10_readFair : mmY := (yX10_readFair, cX10_readFair, 1, (Option.some Jvm.ClassFile.FieldType.int))
abbrev hX10_fault : mmY := (yX10_fault, cX10_fault, 1, (Option.some Jvm.ClassFile.FieldType.int))
abbrev hX10_copyRow : mmY := (yX10_copyRow, cX10_copyRow, 4, (Option.none : Option Jvm.ClassFile.FieldType))
abbrev hX10_fair : mmY := (yX10_fair, cX10_fair, 2, (Option.some Jvm.ClassFile.FieldType.int))
abbrev hX10_firm : mmY := (yX10_firm, cX10_firm, 4, (Option.some Jvm.ClassFile.FieldType.int))
abbrev hX10_blows : mmY := (yX10_blows, cX10_blows, 3, (Option.some Jvm.ClassFile.FieldType.int))
abbrev hX10_force : mmY := (yX10_force, cX10_force, 2, (Option.some Jvm.ClassFile.FieldType.int))
abbrev hX10_landing : mmY := (yX10_landing, cX10_landing, 8, (Option.some Jvm.ClassFile.FieldType.int))
abbrev hX10_huskAt : mmY := (yX10_huskAt, cX10_huskAt, 4, (Option.some Jvm.ClassFile.FieldType.int))
abbrev hX10_stand : mmY := (yX10_stand, cX10_stand, 2, (Option.none : Option Jvm.ClassFile.FieldType))
abbrev hX10_fall : mmY := (yX10_fall, cX10_fall, 7, (Option.none : Option Jvm.ClassFile.FieldType))
abbrev hX10_goThrow : mmY := (yX10_goThrow, cX10_goThrow, 7, (Option.none : Option Jvm.ClassFile.FieldType))
abbrev hX10_placeAt : mmY := (yX10_placeAt, cX10_placeAt, 5, (Option.some Jvm.ClassFile.FieldType.int))
abbrev hX10_about : mmY := (yX10_about, cX10_about, 2, (Option.some Jvm.ClassFile.FieldType.int))
abbrev hX10_husk : mmY := (yX10_husk, cX10_husk, 3, (Option.some Jvm.ClassFile.FieldType.int))
abbrev hX10_thrower : mmY := (yX10_thrower, cX10_thrower, 3, (Option.some Jvm.ClassFile.FieldType.int))
abbrev hX10_noThrow : mmY := (yX10_noThrow, cX10_noThrow, 4, (Option.some Jvm.ClassFile.FieldType.int))
abbrev hX10_lands : mmY := (yX10_lands, cX10_lands, 5, (Option.some Jvm.ClassFile.FieldType.int))
abbrev hX10_note : mmY := (yX10_note, cX10_note, 2, (Option.none : Option Jvm.ClassFile.FieldType))
abbrev hX10_toss : mmY := (yX10_toss, cX10_toss, 5, (Option.some Jvm.ClassFile.FieldType.int))
abbrev hX10_set : mmY := (yX10_set, cX10_set, 2, (Option.some Jvm.ClassFile.FieldType.int))
abbrev hX10_nail : mmY := (yX10_nail, cX10_nail, 2, (Option.some Jvm.ClassFile.FieldType.int))
abbrev hX10_paidMore : mmY := (yX10_paidMore, cX10_paidMore, 1, (Option.some Jvm.ClassFile.FieldType.int))
abbrev hX10_pay : mmY := (yX10_pay, cX10_pay, 1, (Option.some Jvm.ClassFile.FieldType.int))
abbrev hX10_blow : mmY := (yX10_blow, cX10_blow, 3, (Option.some Jvm.ClassFile.FieldType.int))
abbrev hX10_undo : mmY := (yX10_undo, cX10_undo, 2, (Option.some Jvm.ClassFile.FieldType.int))
abbrev hX10_felled : mmY := (yX10_felled, cX10_felled, 5, (Option.some Jvm.ClassFile.FieldType.int))
abbrev hX10_power : mmY := (yX10_power, cX10_power, 4, (Option.some Jvm.ClassFile.FieldType.int))
abbrev hX10_throwsAt : mmY := (yX10_throwsAt, cX10_throwsAt, 4, (Option.some Jvm.ClassFile.FieldType.boolean))
abbrev hX10_findFewest : mmY := (yX10_findFewest, cX10_findFewest, 10, (Option.none : Option Jvm.ClassFile.FieldType))
abbrev hX10_fewest : mmY := (yX10_fewest, cX10_fewest, 3, (Option.some Jvm.ClassFile.FieldType.int))
abbrev hX10_winds : mmY := (yX10_winds, cX10_winds, 6, (Option.some Jvm.ClassFile.FieldType.int))
abbrev hX10_findMatch : mmY := (yX10_findMatch, cX10_findMatch, 8, (Option.none : Option Jvm.ClassFile.FieldType))
abbrev hX10_match : mmY := (yX10_match, cX10_match, 2, (Option.some Jvm.ClassFile.FieldType.int))
abbrev hX10_holdsUp : mmY := (yX10_holdsUp, cX10_holdsUp, 5, (Option.some Jvm.ClassFile.FieldType.boolean))
abbrev hX10_nails : mmY := (yX10_nails, cX10_nails, 5, (Option.some Jvm.ClassFile.FieldType.int))
abbrev hX10_does : mmY := (yX10_does, cX10_does, 5, (Option.some Jvm.ClassFile.FieldType.boolean))
abbrev hX10_judge : mmY := (yX10_judge, cX10_judge, 4, (Option.some Jvm.ClassFile.FieldType.int))
abbrev hX10_ways : mmY := (yX10_ways, cX10_ways, 3, (Option.some Jvm.ClassFile.FieldType.int))
abbrev hX10_divisor : mmY := (yX10_divisor, cX10_divisor, 5, (Option.some Jvm.ClassFile.FieldType.int))
abbrev hX10_fraction : mmY := (yX10_fraction, cX10_fraction, 4, (Option.some Jvm.ClassFile.FieldType.int))
abbrev hX10_share : mmY := (yX10_share, cX10_share, 6, (Option.some Jvm.ClassFile.FieldType.int))
abbrev hX10_see : mmY := (yX10_see, cX10_see, 4, (Option.some Jvm.ClassFile.FieldType.int))
abbrev hX10_unsee : mmY := (yX10_unsee, cX10_unsee, 2, (Option.some Jvm.ClassFile.FieldType.int))
abbrev hX10_holds : mmY := (yX10_holds, cX10_holds, 7, (Option.some Jvm.ClassFile.FieldType.int))
abbrev hX10_layWorth : mmY := (yX10_layWorth, cX10_layWorth, 6, (Option.none : Option Jvm.ClassFile.FieldType))
abbrev hX10_findRests : mmY := (yX10_findRests, cX10_findRests, 5, (Option.none : Option Jvm.ClassFile.FieldType))
abbrev hX10_rests : mmY := (yX10_rests, cX10_rests, 2, (Option.some Jvm.ClassFile.FieldType.int))
abbrev hX10_odds : mmY := (yX10_odds, cX10_odds, 12, (Option.some Jvm.ClassFile.FieldType.int))
abbrev hX10_seed : mmY := (yX10_seed, cX10_seed, 5, (Option.some Jvm.ClassFile.FieldType.long))
abbrev hX10_fairs : mmY := (yX10_fairs, cX10_fairs, 5, (Option.some Jvm.ClassFile.FieldType.int))
abbrev hX10_keep : mmY := (yX10_keep, cX10_keep, 3, (Option.some Jvm.ClassFile.FieldType.int))
abbrev hX10_again : mmY := (yX10_again, cX10_again, 3, (Option.some Jvm.ClassFile.FieldType.int))
abbrev hJ6_bitCount_0f7a4 : mmY := (yJ6_bitCount_0f7a4, cJ6_bitCount_0f7a4, 1, (Option.some Jvm.ClassFile.FieldType.int))
abbrev hJ9_max_7cf53 : mmY := (yJ9_max_7cf53, cJ9_max_7cf53, 2, (Option.some Jvm.ClassFile.FieldType.int))
abbrev hJ9_min_7cf53 : mmY := (yJ9_min_7cf53, cJ9_min_7cf53, 2, (Option.some Jvm.ClassFile.FieldType.int))
theorem fX9_10 : mm_FL RX9 10 9 0 := ⟨RX9, TX9, 11, tyX9, rfl, by decide, rfl, by decide, inX9, tyX9_ok, nmX9, k_274, fun h => absurd h (by decide), fun _ => Or.inr ⟨_, rfl⟩, fun h => absurd h (by decide)⟩
theorem ff_9_0 : ∀ z, vwCl[9]? = some z → (z.2.1 0).2.2.2 = true ∧ (z.2.1 0).1 = RX9 := fun q h => by cases h; exact ⟨rfl, rfl⟩
theorem fX9_19 : mm_FL RX9 19 9 1 := ⟨RX9, TX9, 11, tyX9, rfl, by decide, rfl, by decide, inX9, tyX9_ok, nmX9, k_275, fun h => absurd h (by decide), fun _ => Or.inr ⟨_, rfl⟩, fun h => absurd h (by decide)⟩
theorem ff_9_1 : ∀ z, vwCl[9]? = some z → (z.2.1 1).2.2.2 = true ∧ (z.2.1 1).1 = RX9 := fun q h => by cases h; exact ⟨rfl, rfl⟩
theorem fX9_26 : mm_FL RX9 26 9 2 := ⟨RX9, TX9, 11, tyX9, rfl, by decide, rfl, by decide, inX9, tyX9_ok, nmX9, k_276, fun h => absurd h (by decide), fun _ => Or.inr ⟨_, rfl⟩, fun h => absurd h (by decide)⟩
theorem ff_9_2 : ∀ z, vwCl[9]? = some z → (z.2.1 2).2.2.2 = true ∧ (z.2.1 2).1 = RX9 := fun q h => by cases h; exact ⟨rfl, rfl⟩
theorem fX9_33 : mm_FL RX9 33 9 3 := ⟨RX9, TX9, 11, tyX9, rfl, by decide, rfl, by decide, inX9, tyX9_ok, nmX9, k_277, fun h => absurd h (by decide), fun _ => Or.inr ⟨_, rfl⟩, fun h => absurd h (by decide)⟩
theorem ff_9_3 : ∀ z, vwCl[9]? = some z → (z.2.1 3).2.2.2 = true ∧ (z.2.1 3).1 = RX9 := fun q h => by cases h; exact ⟨rfl, rfl⟩
theorem fX9_40 : mm_FL RX9 40 9 4 := ⟨RX9, TX9, 11, tyX9, rfl, by decide, rfl, by decide, inX9, tyX9_ok, nmX9, k_278, fun h => absurd h (by decide), fun _ => Or.inr ⟨_, rfl⟩, fun h => absurd h (by decide)⟩
theorem ff_9_4 : ∀ z, vwCl[9]? = some z → (z.2.1 4).2.2.2 = true ∧ (z.2.1 4).1 = RX9 := fun q h => by cases h; exact ⟨rfl, rfl⟩
theorem fX9_47 : mm_FL RX9 47 9 5 := ⟨RX9, TX9, 11, tyX9, rfl, by decide, rfl, by decide, inX9, tyX9_ok, nmX9, k_279, fun h => absurd h (by decide), fun _ => Or.inr ⟨_, rfl⟩, fun h => absurd h (by decide)⟩
theorem ff_9_5 : ∀ z, vwCl[9]? = some z → (z.2.1 5).2.2.2 = true ∧ (z.2.1 5).1 = RX9 := fun q h => by cases h; exact ⟨rfl, rfl⟩
theorem fX9_54 : mm_FL RX9 54 9 6 := ⟨RX9, TX9, 11, tyX9, rfl, by decide, rfl, by decide, inX9, tyX9_ok, nmX9, k_280, fun h => absurd h (by decide), fun _ => Or.inr ⟨_, rfl⟩, fun h => absurd h (by decide)⟩
theorem ff_9_6 : ∀ z, vwCl[9]? = some z → (z.2.1 6).2.2.2 = true ∧ (z.2.1 6).1 = RX9 := fun q h => by cases h; exact ⟨rfl, rfl⟩
theorem fX9_61 : mm_FL RX9 61 9 7 := ⟨RX9, TX9, 11, tyX9, rfl, by decide, rfl, by decide, inX9, tyX9_ok, nmX9, k_281, fun h => absurd h (by decide), fun _ => Or.inr ⟨_, rfl⟩, fun h => absurd h (by decide)⟩
theorem ff_9_7 : ∀ z, vwCl[9]? = some z → (z.2.1 7).2.2.2 = true ∧ (z.2.1 7).1 = RX9 := fun q h => by cases h; exact ⟨rfl, rfl⟩
theorem fX9_68 : mm_FL RX9 68 9 8 := ⟨RX9, TX9, 11, tyX9, rfl, by decide, rfl, by decide, inX9, tyX9_ok, nmX9, k_282, fun h => absurd h (by decide), fun _ => Or.inr ⟨_, rfl⟩, fun h => absurd h (by decide)⟩
theorem fn_9_8 : mm_FN 9 8 := fun q h => by cases h; rfl
theorem fX9_72 : mm_FL RX9 72 9 9 := ⟨RX9, TX9, 11, tyX9, rfl, by decide, rfl, by decide, inX9, tyX9_ok, nmX9, k_283, fun h => absurd h (by decide), fun _ => Or.inr ⟨_, rfl⟩, fun h => absurd h (by decide)⟩
theorem fn_9_9 : mm_FN 9 9 := fun q h => by cases h; rfl
theorem fX9_75 : mm_FL RX9 75 9 10 := ⟨RX9, TX9, 11, tyX9, rfl, by decide, rfl, by decide, inX9, tyX9_ok, nmX9, k_284, fun h => absurd h (by decide), fun h => absurd h (by decide), fun _ => rfl⟩
theorem fn_9_10 : mm_FN 9 10 := fun q h => by cases h; rfl
theorem fX9_83 : mm_FL RX9 83 8 1 := ⟨RX8, TX8, 2, tyX8, rfl, by decide, rfl, by decide, inX8, tyX8_ok, nmX8, k_31, fun _ => rfl, fun h => absurd h (by decide), fun h => absurd h (by decide)⟩
theorem fn_8_1 : mm_FN 8 1 := fun q h => by cases h; rfl
theorem fX9_99 : mm_FL RX9 99 1 9 := ⟨RX1, TX1, 14, tyX1, rfl, by decide, rfl, by decide, inX1, tyX1_ok, nmX1, k_234, fun _ => rfl, fun h => absurd h (by decide), fun h => absurd h (by decide)⟩
theorem fX9_102 : mm_FL RX9 102 1 10 := ⟨RX1, TX1, 14, tyX1, rfl, by decide, rfl, by decide, inX1, tyX1_ok, nmX1, k_237, fun _ => rfl, fun h => absurd h (by decide), fun h => absurd h (by decide)⟩
theorem fX9_105 : mm_FL RX9 105 1 11 := ⟨RX1, TX1, 14, tyX1, rfl, by decide, rfl, by decide, inX1, tyX1_ok, nmX1, k_239, fun _ => rfl, fun h => absurd h (by decide), fun h => absurd h (by decide)⟩
theorem fX9_108 : mm_FL RX9 108 7 5 := ⟨RX7, TX7, 7, tyX7, rfl, by decide, rfl, by decide, inX7, tyX7_ok, nmX7, k_58, fun _ => rfl, fun h => absurd h (by decide), fun h => absurd h (by decide)⟩
theorem fn_7_5 : mm_FN 7 5 := fun q h => by cases h; rfl
theorem fX9_111 : mm_FL RX9 111 7 6 := ⟨RX7, TX7, 7, tyX7, rfl, by decide, rfl, by decide, inX7, tyX7_ok, nmX7, k_60, fun _ => rfl, fun h => absurd h (by decide), fun h => absurd h (by decide)⟩
theorem fn_7_6 : mm_FN 7 6 := fun q h => by cases h; rfl
theorem fX9_114 : mm_FL RX9 114 7 2 := ⟨RX7, TX7, 7, tyX7, rfl, by decide, rfl, by decide, inX7, tyX7_ok, nmX7, k_51, fun _ => rfl, fun h => absurd h (by decide), fun h => absurd h (by decide)⟩
theorem fX9_117 : mm_FL RX9 117 0 2 := ⟨RX0, TX0, 3, tyX0, rfl, by decide, rfl, by decide, inX0, tyX0_ok, nmX0, k_93, fun _ => rfl, fun h => absurd h (by decide), fun h => absurd h (by decide)⟩
theorem fX9_120 : mm_FL RX9 120 5 3 := ⟨RX5, TX5, 4, tyX5, rfl, by decide, rfl, by decide, inX5, tyX5_ok, nmX5, k_111, fun _ => rfl, fun h => absurd h (by decide), fun h => absurd h (by decide)⟩
theorem fn_5_3 : mm_FN 5 3 := fun q h => by cases h; rfl
theorem fX9_124 : mm_FL RX9 124 1 0 := ⟨RX1, TX1, 14, tyX1, rfl, by decide, rfl, by decide, inX1, tyX1_ok, nmX1, k_211, fun h => absurd h (by decide), fun _ => Or.inl ⟨_, rfl⟩, fun h => absurd h (by decide)⟩
theorem fX9_128 : mm_FL RX9 128 1 1 := ⟨RX1, TX1, 14, tyX1, rfl, by decide, rfl, by decide, inX1, tyX1_ok, nmX1, k_214, fun h => absurd h (by decide), fun _ => Or.inl ⟨_, rfl⟩, fun h => absurd h (by decide)⟩
theorem fX9_131 : mm_FL RX9 131 1 2 := ⟨RX1, TX1, 14, tyX1, rfl, by decide, rfl, by decide, inX1, tyX1_ok, nmX1, k_217, fun h => absurd h (by decide), fun _ => Or.inl ⟨_, rfl⟩, fun h => absurd h (by decide)⟩
theorem fX9_138 : mm_FL RX9 138 7 0 := ⟨RX7, TX7, 7, tyX7, rfl, by decide, rfl, by decide, inX7, tyX7_ok, nmX7, k_46, fun h => absurd h (by decide), fun _ => Or.inl ⟨_, rfl⟩, fun h => absurd h (by decide)⟩
theorem fX9_141 : mm_FL RX9 141 7 1 := ⟨RX7, TX7, 7, tyX7, rfl, by decide, rfl, by decide, inX7, tyX7_ok, nmX7, k_48, fun h => absurd h (by decide), fun _ => Or.inl ⟨_, rfl⟩, fun h => absurd h (by decide)⟩
theorem fX9_144 : mm_FL RX9 144 7 3 := ⟨RX7, TX7, 7, tyX7, rfl, by decide, rfl, by decide, inX7, tyX7_ok, nmX7, k_53, fun _ => rfl, fun h => absurd h (by decide), fun h => absurd h (by decide)⟩
theorem fX9_151 : mm_FL RX9 151 7 4 := ⟨RX7, TX7, 7, tyX7, rfl, by decide, rfl, by decide, inX7, tyX7_ok, nmX7, k_55, fun _ => rfl, fun h => absurd h (by decide), fun h => absurd h (by decide)⟩
theorem fX9_157 : mm_FL RX9 157 1 3 := ⟨RX1, TX1, 14, tyX1, rfl, by decide, rfl, by decide, inX1, tyX1_ok, nmX1, k_219, fun h => absurd h (by decide), fun _ => Or.inl ⟨_, rfl⟩, fun h => absurd h (by decide)⟩
theorem fX9_160 : mm_FL RX9 160 1 4 := ⟨RX1, TX1, 14, tyX1, rfl, by decide, rfl, by decide, inX1, tyX1_ok, nmX1, k_221, fun h => absurd h (by decide), fun _ => Or.inl ⟨_, rfl⟩, fun h => absurd h (by decide)⟩
theorem fX9_163 : mm_FL RX9 163 1 5 := ⟨RX1, TX1, 14, tyX1, rfl, by decide, rfl, by decide, inX1, tyX1_ok, nmX1, k_223, fun h => absurd h (by decide), fun _ => Or.inl ⟨_, rfl⟩, fun h => absurd h (by decide)⟩
theorem fX9_219 : mm_FL RX9 219 4 2 := ⟨RX4, TX4, 3, tyX4, rfl, by decide, rfl, by decide, inX4, tyX4_ok, nmX4, k_147, fun _ => rfl, fun h => absurd h (by decide), fun h => absurd h (by decide)⟩
theorem fX9_222 : mm_FL RX9 222 4 1 := ⟨RX4, TX4, 3, tyX4, rfl, by decide, rfl, by decide, inX4, tyX4_ok, nmX4, k_145, fun _ => rfl, fun h => absurd h (by decide), fun h => absurd h (by decide)⟩
theorem fX9_255 : mm_FL RX9 255 3 3 := ⟨RX3, TX3, 5, tyX3, rfl, by decide, rfl, by decide, inX3, tyX3_ok, nmX3, k_167, fun _ => rfl, fun h => absurd h (by decide), fun h => absurd h (by decide)⟩
theorem fX9_256 : mm_FL RX9 256 3 4 := ⟨RX3, TX3, 5, tyX3, rfl, by decide, rfl, by decide, inX3, tyX3_ok, nmX3, k_169, fun _ => rfl, fun h => absurd h (by decide), fun h => absurd h (by decide)⟩
theorem fX9_262 : mm_FL RX9 262 2 1 := ⟨RX2, TX2, 4, tyX2, rfl, by decide, rfl, by decide, inX2, tyX2_ok, nmX2, k_190, fun _ => rfl, fun h => absurd h (by decide), fun h => absurd h (by decide)⟩
theorem fn_2_1 : mm_FN 2 1 := fun q h => by cases h; rfl
theorem fX9_265 : mm_FL RX9 265 2 2 := ⟨RX2, TX2, 4, tyX2, rfl, by decide, rfl, by decide, inX2, tyX2_ok, nmX2, k_192, fun _ => rfl, fun h => absurd h (by decide), fun h => absurd h (by decide)⟩
theorem fn_2_2 : mm_FN 2 2 := fun q h => by cases h; rfl
theorem fX9_267 : mm_FL RX9 267 2 3 := ⟨RX2, TX2, 4, tyX2, rfl, by decide, rfl, by decide, inX2, tyX2_ok, nmX2, k_194, fun _ => rfl, fun h => absurd h (by decide), fun h => absurd h (by decide)⟩
theorem fn_2_3 : mm_FN 2 3 := fun q h => by cases h; rfl
theorem fX0_13 : mm_FL RX0 13 0 0 := ⟨RX0, TX0, 3, tyX0, rfl, by decide, rfl, by decide, inX0, tyX0_ok, nmX0, k_90, fun h => absurd h (by decide), fun _ => Or.inl ⟨_, rfl⟩, fun h => absurd h (by decide)⟩
theorem ff_0_0 : ∀ z, vwCl[0]? = some z → (z.2.1 0).2.2.2 = true ∧ (z.2.1 0).1 = RX0 := fun q h => by cases h; exact ⟨rfl, rfl⟩
theorem fX0_19 : mm_FL RX0 19 0 1 := ⟨RX0, TX0, 3, tyX0, rfl, by decide, rfl, by decide, inX0, tyX0_ok, nmX0, k_91, fun _ => rfl, fun h => absurd h (by decide), fun h => absurd h (by decide)⟩
theorem fn_0_1 : mm_FN 0 1 := fun q h => by cases h; rfl
theorem fX0_23 : mm_FL RX0 23 0 2 := ⟨RX0, TX0, 3, tyX0, rfl, by decide, rfl, by decide, inX0, tyX0_ok, nmX0, k_92, fun _ => rfl, fun h => absurd h (by decide), fun h => absurd h (by decide)⟩
theorem fn_0_2 : mm_FN 0 2 := fun q h => by cases h; rfl
theorem fX1_9 : mm_FL RX1 9 1 0 := ⟨RX1, TX1, 14, tyX1, rfl, by decide, rfl, by decide, inX1, tyX1_ok, nmX1, k_210, fun h => absurd h (by decide), fun _ => Or.inl ⟨_, rfl⟩, fun h => absurd h (by decide)⟩
theorem ff_1_0 : ∀ z, vwCl[1]? = some z → (z.2.1 0).2.2.2 = true ∧ (z.2.1 0).1 = RX1 := fun q h => by cases h; exact ⟨rfl, rfl⟩
theorem fX1_15 : mm_FL RX1 15 1 1 := ⟨RX1, TX1, 14, tyX1, rfl, by decide, rfl, by decide, inX1, tyX1_ok, nmX1, k_212, fun h => absurd h (by decide), fun _ => Or.inl ⟨_, rfl⟩, fun h => absurd h (by decide)⟩
theorem ff_1_1 : ∀ z, vwCl[1]? = some z → (z.2.1 1).2.2.2 = true ∧ (z.2.1 1).1 = RX1 := fun q h => by cases h; exact ⟨rfl, rfl⟩
theorem fX1_18 : mm_FL RX1 18 1 2 := ⟨RX1, TX1, 14, tyX1, rfl, by decide, rfl, by decide, inX1, tyX1_ok, nmX1, k_215, fun h => absurd h (by decide), fun _ => Or.inl ⟨_, rfl⟩, fun h => absurd h (by decide)⟩
theorem ff_1_2 : ∀ z, vwCl[1]? = some z → (z.2.1 2).2.2.2 = true ∧ (z.2.1 2).1 = RX1 := fun q h => by cases h; exact ⟨rfl, rfl⟩
theorem fX1_21 : mm_FL RX1 21 1 3 := ⟨RX1, TX1, 14, tyX1, rfl, by decide, rfl, by decide, inX1, tyX1_ok, nmX1, k_218, fun h => absurd h (by decide), fun _ => Or.inl ⟨_, rfl⟩, fun h => absurd h (by decide)⟩
theorem ff_1_3 : ∀ z, vwCl[1]? = some z → (z.2.1 3).2.2.2 = true ∧ (z.2.1 3).1 = RX1 := fun q h => by cases h; exact ⟨rfl, rfl⟩
theorem fX1_24 : mm_FL RX1 24 1 4 := ⟨RX1, TX1, 14, tyX1, rfl, by decide, rfl, by decide, inX1, tyX1_ok, nmX1, k_220, fun h => absurd h (by decide), fun _ => Or.inl ⟨_, rfl⟩, fun h => absurd h (by decide)⟩
theorem ff_1_4 : ∀ z, vwCl[1]? = some z → (z.2.1 4).2.2.2 = true ∧ (z.2.1 4).1 = RX1 := fun q h => by cases h; exact ⟨rfl, rfl⟩
theorem fX1_27 : mm_FL RX1 27 1 5 := ⟨RX1, TX1, 14, tyX1, rfl, by decide, rfl, by decide, inX1, tyX1_ok, nmX1, k_222, fun h => absurd h (by decide), fun _ => Or.inl ⟨_, rfl⟩, fun h => absurd h (by decide)⟩
theorem ff_1_5 : ∀ z, vwCl[1]? = some z → (z.2.1 5).2.2.2 = true ∧ (z.2.1 5).1 = RX1 := fun q h => by cases h; exact ⟨rfl, rfl⟩
theorem fX1_30 : mm_FL RX1 30 1 6 := ⟨RX1, TX1, 14, tyX1, rfl, by decide, rfl, by decide, inX1, tyX1_ok, nmX1, k_224, fun h => absurd h (by decide), fun _ => Or.inl ⟨_, rfl⟩, fun h => absurd h (by decide)⟩
theorem ff_1_6 : ∀ z, vwCl[1]? = some z → (z.2.1 6).2.2.2 = true ∧ (z.2.1 6).1 = RX1 := fun q h => by cases h; exact ⟨rfl, rfl⟩
theorem fX1_33 : mm_FL RX1 33 1 7 := ⟨RX1, TX1, 14, tyX1, rfl, by decide, rfl, by decide, inX1, tyX1_ok, nmX1, k_226, fun h => absurd h (by decide), fun _ => Or.inl ⟨_, rfl⟩, fun h => absurd h (by decide)⟩
theorem ff_1_7 : ∀ z, vwCl[1]? = some z → (z.2.1 7).2.2.2 = true ∧ (z.2.1 7).1 = RX1 := fun q h => by cases h; exact ⟨rfl, rfl⟩
theorem fX1_36 : mm_FL RX1 36 1 8 := ⟨RX1, TX1, 14, tyX1, rfl, by decide, rfl, by decide, inX1, tyX1_ok, nmX1, k_228, fun h => absurd h (by decide), fun _ => Or.inl ⟨_, rfl⟩, fun h => absurd h (by decide)⟩
theorem ff_1_8 : ∀ z, vwCl[1]? = some z → (z.2.1 8).2.2.2 = true ∧ (z.2.1 8).1 = RX1 := fun q h => by cases h; exact ⟨rfl, rfl⟩
theorem fX1_39 : mm_FL RX1 39 1 9 := ⟨RX1, TX1, 14, tyX1, rfl, by decide, rfl, by decide, inX1, tyX1_ok, nmX1, k_230, fun _ => rfl, fun h => absurd h (by decide), fun h => absurd h (by decide)⟩
theorem fn_1_9 : mm_FN 1 9 := fun q h => by cases h; rfl
theorem fX1_43 : mm_FL RX1 43 1 10 := ⟨RX1, TX1, 14, tyX1, rfl, by decide, rfl, by decide, inX1, tyX1_ok, nmX1, k_235, fun _ => rfl, fun h => absurd h (by decide), fun h => absurd h (by decide)⟩
theorem fn_1_10 : mm_FN 1 10 := fun q h => by cases h; rfl
theorem fX1_46 : mm_FL RX1 46 1 11 := ⟨RX1, TX1, 14, tyX1, rfl, by decide, rfl, by decide, inX1, tyX1_ok, nmX1, k_238, fun _ => rfl, fun h => absurd h (by decide), fun h => absurd h (by decide)⟩
theorem fn_1_11 : mm_FN 1 11 := fun q h => by cases h; rfl
theorem fX1_49 : mm_FL RX1 49 1 12 := ⟨RX1, TX1, 14, tyX1, rfl, by decide, rfl, by decide, inX1, tyX1_ok, nmX1, k_241, fun _ => rfl, fun h => absurd h (by decide), fun h => absurd h (by decide)⟩
theorem fn_1_12 : mm_FN 1 12 := fun q h => by cases h; rfl
theorem fX1_52 : mm_FL RX1 52 1 13 := ⟨RX1, TX1, 14, tyX1, rfl, by decide, rfl, by decide, inX1, tyX1_ok, nmX1, k_243, fun _ => rfl, fun h => absurd h (by decide), fun h => absurd h (by decide)⟩
theorem fn_1_13 : mm_FN 1 13 := fun q h => by cases h; rfl
theorem fX1_65 : mm_FL RX1 65 8 1 := ⟨RX8, TX8, 2, tyX8, rfl, by decide, rfl, by decide, inX8, tyX8_ok, nmX8, k_32, fun _ => rfl, fun h => absurd h (by decide), fun h => absurd h (by decide)⟩
theorem fX2_13 : mm_FL RX2 13 2 0 := ⟨RX2, TX2, 4, tyX2, rfl, by decide, rfl, by decide, inX2, tyX2_ok, nmX2, k_188, fun h => absurd h (by decide), fun _ => Or.inl ⟨_, rfl⟩, fun h => absurd h (by decide)⟩
theorem ff_2_0 : ∀ z, vwCl[2]? = some z → (z.2.1 0).2.2.2 = true ∧ (z.2.1 0).1 = RX2 := fun q h => by cases h; exact ⟨rfl, rfl⟩
theorem fX2_19 : mm_FL RX2 19 2 1 := ⟨RX2, TX2, 4, tyX2, rfl, by decide, rfl, by decide, inX2, tyX2_ok, nmX2, k_189, fun _ => rfl, fun h => absurd h (by decide), fun h => absurd h (by decide)⟩
theorem fX2_23 : mm_FL RX2 23 2 2 := ⟨RX2, TX2, 4, tyX2, rfl, by decide, rfl, by decide, inX2, tyX2_ok, nmX2, k_191, fun _ => rfl, fun h => absurd h (by decide), fun h => absurd h (by decide)⟩
theorem fX2_26 : mm_FL RX2 26 2 3 := ⟨RX2, TX2, 4, tyX2, rfl, by decide, rfl, by decide, inX2, tyX2_ok, nmX2, k_193, fun _ => rfl, fun h => absurd h (by decide), fun h => absurd h (by decide)⟩
theorem fX3_11 : mm_FL RX3 11 3 0 := ⟨RX3, TX3, 5, tyX3, rfl, by decide, rfl, by decide, inX3, tyX3_ok, nmX3, k_163, fun h => absurd h (by decide), fun _ => Or.inl ⟨_, rfl⟩, fun h => absurd h (by decide)⟩
theorem ff_3_0 : ∀ z, vwCl[3]? = some z → (z.2.1 0).2.2.2 = true ∧ (z.2.1 0).1 = RX3 := fun q h => by cases h; exact ⟨rfl, rfl⟩
theorem fX3_15 : mm_FL RX3 15 3 1 := ⟨RX3, TX3, 5, tyX3, rfl, by decide, rfl, by decide, inX3, tyX3_ok, nmX3, k_164, fun h => absurd h (by decide), fun _ => Or.inl ⟨_, rfl⟩, fun h => absurd h (by decide)⟩
theorem ff_3_1 : ∀ z, vwCl[3]? = some z → (z.2.1 1).2.2.2 = true ∧ (z.2.1 1).1 = RX3 := fun q h => by cases h; exact ⟨rfl, rfl⟩
theorem fX3_21 : mm_FL RX3 21 3 2 := ⟨RX3, TX3, 5, tyX3, rfl, by decide, rfl, by decide, inX3, tyX3_ok, nmX3, k_165, fun h => absurd h (by decide), fun _ => Or.inr ⟨_, rfl⟩, fun h => absurd h (by decide)⟩
theorem ff_3_2 : ∀ z, vwCl[3]? = some z → (z.2.1 2).2.2.2 = true ∧ (z.2.1 2).1 = RX3 := fun q h => by cases h; exact ⟨rfl, rfl⟩
theorem fX3_25 : mm_FL RX3 25 3 3 := ⟨RX3, TX3, 5, tyX3, rfl, by decide, rfl, by decide, inX3, tyX3_ok, nmX3, k_166, fun _ => rfl, fun h => absurd h (by decide), fun h => absurd h (by decide)⟩
theorem fn_3_3 : mm_FN 3 3 := fun q h => by cases h; rfl
theorem fX3_29 : mm_FL RX3 29 3 4 := ⟨RX3, TX3, 5, tyX3, rfl, by decide, rfl, by decide, inX3, tyX3_ok, nmX3, k_168, fun _ => rfl, fun h => absurd h (by decide), fun h => absurd h (by decide)⟩
theorem fn_3_4 : mm_FN 3 4 := fun q h => by cases h; rfl
theorem fX3_32 : mm_FL RX3 32 1 9 := ⟨RX1, TX1, 14, tyX1, rfl, by decide, rfl, by decide, inX1, tyX1_ok, nmX1, k_231, fun _ => rfl, fun h => absurd h (by decide), fun h => absurd h (by decide)⟩
theorem fX4_13 : mm_FL RX4 13 4 0 := ⟨RX4, TX4, 3, tyX4, rfl, by decide, rfl, by decide, inX4, tyX4_ok, nmX4, k_143, fun h => absurd h (by decide), fun _ => Or.inl ⟨_, rfl⟩, fun h => absurd h (by decide)⟩
theorem ff_4_0 : ∀ z, vwCl[4]? = some z → (z.2.1 0).2.2.2 = true ∧ (z.2.1 0).1 = RX4 := fun q h => by cases h; exact ⟨rfl, rfl⟩
theorem fX4_19 : mm_FL RX4 19 4 1 := ⟨RX4, TX4, 3, tyX4, rfl, by decide, rfl, by decide, inX4, tyX4_ok, nmX4, k_144, fun _ => rfl, fun h => absurd h (by decide), fun h => absurd h (by decide)⟩
theorem fn_4_1 : mm_FN 4 1 := fun q h => by cases h; rfl
theorem fX4_23 : mm_FL RX4 23 4 2 := ⟨RX4, TX4, 3, tyX4, rfl, by decide, rfl, by decide, inX4, tyX4_ok, nmX4, k_146, fun _ => rfl, fun h => absurd h (by decide), fun h => absurd h (by decide)⟩
theorem fn_4_2 : mm_FN 4 2 := fun q h => by cases h; rfl
theorem fX4_36 : mm_FL RX4 36 7 2 := ⟨RX7, TX7, 7, tyX7, rfl, by decide, rfl, by decide, inX7, tyX7_ok, nmX7, k_50, fun _ => rfl, fun h => absurd h (by decide), fun h => absurd h (by decide)⟩
theorem fX4_47 : mm_FL RX4 47 1 10 := ⟨RX1, TX1, 14, tyX1, rfl, by decide, rfl, by decide, inX1, tyX1_ok, nmX1, k_236, fun _ => rfl, fun h => absurd h (by decide), fun h => absurd h (by decide)⟩
theorem fX4_52 : mm_FL RX4 52 1 9 := ⟨RX1, TX1, 14, tyX1, rfl, by decide, rfl, by decide, inX1, tyX1_ok, nmX1, k_233, fun _ => rfl, fun h => absurd h (by decide), fun h => absurd h (by decide)⟩
theorem fX4_83 : mm_FL RX4 83 7 4 := ⟨RX7, TX7, 7, tyX7, rfl, by decide, rfl, by decide, inX7, tyX7_ok, nmX7, k_56, fun _ => rfl, fun h => absurd h (by decide), fun h => absurd h (by decide)⟩
theorem fn_7_4 : mm_FN 7 4 := fun q h => by cases h; rfl
theorem fX4_114 : mm_FL RX4 114 7 6 := ⟨RX7, TX7, 7, tyX7, rfl, by decide, rfl, by decide, inX7, tyX7_ok, nmX7, k_61, fun _ => rfl, fun h => absurd h (by decide), fun h => absurd h (by decide)⟩
theorem fX5_9 : mm_FL RX5 9 5 0 := ⟨RX5, TX5, 4, tyX5, rfl, by decide, rfl, by decide, inX5, tyX5_ok, nmX5, k_107, fun h => absurd h (by decide), fun _ => Or.inl ⟨_, rfl⟩, fun h => absurd h (by decide)⟩
theorem ff_5_0 : ∀ z, vwCl[5]? = some z → (z.2.1 0).2.2.2 = true ∧ (z.2.1 0).1 = RX5 := fun q h => by cases h; exact ⟨rfl, rfl⟩
theorem fX5_15 : mm_FL RX5 15 5 1 := ⟨RX5, TX5, 4, tyX5, rfl, by decide, rfl, by decide, inX5, tyX5_ok, nmX5, k_108, fun h => absurd h (by decide), fun _ => Or.inl ⟨_, rfl⟩, fun h => absurd h (by decide)⟩
theorem ff_5_1 : ∀ z, vwCl[5]? = some z → (z.2.1 1).2.2.2 = true ∧ (z.2.1 1).1 = RX5 := fun q h => by cases h; exact ⟨rfl, rfl⟩
theorem fX5_18 : mm_FL RX5 18 5 2 := ⟨RX5, TX5, 4, tyX5, rfl, by decide, rfl, by decide, inX5, tyX5_ok, nmX5, k_109, fun h => absurd h (by decide), fun _ => Or.inl ⟨_, rfl⟩, fun h => absurd h (by decide)⟩
theorem ff_5_2 : ∀ z, vwCl[5]? = some z → (z.2.1 2).2.2.2 = true ∧ (z.2.1 2).1 = RX5 := fun q h => by cases h; exact ⟨rfl, rfl⟩
theorem fX5_21 : mm_FL RX5 21 5 3 := ⟨RX5, TX5, 4, tyX5, rfl, by decide, rfl, by decide, inX5, tyX5_ok, nmX5, k_110, fun _ => rfl, fun h => absurd h (by decide), fun h => absurd h (by decide)⟩
theorem fX6_13 : mm_FL RX6 13 6 0 := ⟨RX6, TX6, 2, tyX6, rfl, by decide, rfl, by decide, inX6, tyX6_ok, nmX6, k_128, fun h => absurd h (by decide), fun _ => Or.inl ⟨_, rfl⟩, fun h => absurd h (by decide)⟩
theorem ff_6_0 : ∀ z, vwCl[6]? = some z → (z.2.1 0).2.2.2 = true ∧ (z.2.1 0).1 = RX6 := fun q h => by cases h; exact ⟨rfl, rfl⟩
theorem fX6_19 : mm_FL RX6 19 6 1 := ⟨RX6, TX6, 2, tyX6, rfl, by decide, rfl, by decide, inX6, tyX6_ok, nmX6, k_129, fun h => absurd h (by decide), fun _ => Or.inl ⟨_, rfl⟩, fun h => absurd h (by decide)⟩
theorem ff_6_1 : ∀ z, vwCl[6]? = some z → (z.2.1 1).2.2.2 = true ∧ (z.2.1 1).1 = RX6 := fun q h => by cases h; exact ⟨rfl, rfl⟩
theorem fX7_9 : mm_FL RX7 9 7 0 := ⟨RX7, TX7, 7, tyX7, rfl, by decide, rfl, by decide, inX7, tyX7_ok, nmX7, k_45, fun h => absurd h (by decide), fun _ => Or.inl ⟨_, rfl⟩, fun h => absurd h (by decide)⟩
theorem ff_7_0 : ∀ z, vwCl[7]? = some z → (z.2.1 0).2.2.2 = true ∧ (z.2.1 0).1 = RX7 := fun q h => by cases h; exact ⟨rfl, rfl⟩
theorem fX7_15 : mm_FL RX7 15 7 1 := ⟨RX7, TX7, 7, tyX7, rfl, by decide, rfl, by decide, inX7, tyX7_ok, nmX7, k_47, fun h => absurd h (by decide), fun _ => Or.inl ⟨_, rfl⟩, fun h => absurd h (by decide)⟩
theorem ff_7_1 : ∀ z, vwCl[7]? = some z → (z.2.1 1).2.2.2 = true ∧ (z.2.1 1).1 = RX7 := fun q h => by cases h; exact ⟨rfl, rfl⟩
theorem fX7_18 : mm_FL RX7 18 7 2 := ⟨RX7, TX7, 7, tyX7, rfl, by decide, rfl, by decide, inX7, tyX7_ok, nmX7, k_49, fun _ => rfl, fun h => absurd h (by decide), fun h => absurd h (by decide)⟩
theorem fn_7_2 : mm_FN 7 2 := fun q h => by cases h; rfl
theorem fX7_22 : mm_FL RX7 22 7 3 := ⟨RX7, TX7, 7, tyX7, rfl, by decide, rfl, by decide, inX7, tyX7_ok, nmX7, k_52, fun _ => rfl, fun h => absurd h (by decide), fun h => absurd h (by decide)⟩
theorem fn_7_3 : mm_FN 7 3 := fun q h => by cases h; rfl
theorem fX7_25 : mm_FL RX7 25 7 4 := ⟨RX7, TX7, 7, tyX7, rfl, by decide, rfl, by decide, inX7, tyX7_ok, nmX7, k_54, fun _ => rfl, fun h => absurd h (by decide), fun h => absurd h (by decide)⟩
theorem fX7_28 : mm_FL RX7 28 7 5 := ⟨RX7, TX7, 7, tyX7, rfl, by decide, rfl, by decide, inX7, tyX7_ok, nmX7, k_57, fun _ => rfl, fun h => absurd h (by decide), fun h => absurd h (by decide)⟩
theorem fX7_31 : mm_FL RX7 31 7 6 := ⟨RX7, TX7, 7, tyX7, rfl, by decide, rfl, by decide, inX7, tyX7_ok, nmX7, k_59, fun _ => rfl, fun h => absurd h (by decide), fun h => absurd h (by decide)⟩
theorem fX7_34 : mm_FL RX7 34 1 12 := ⟨RX1, TX1, 14, tyX1, rfl, by decide, rfl, by decide, inX1, tyX1_ok, nmX1, k_242, fun _ => rfl, fun h => absurd h (by decide), fun h => absurd h (by decide)⟩
theorem fX7_39 : mm_FL RX7 39 1 13 := ⟨RX1, TX1, 14, tyX1, rfl, by decide, rfl, by decide, inX1, tyX1_ok, nmX1, k_244, fun _ => rfl, fun h => absurd h (by decide), fun h => absurd h (by decide)⟩
theorem fX7_42 : mm_FL RX7 42 1 9 := ⟨RX1, TX1, 14, tyX1, rfl, by decide, rfl, by decide, inX1, tyX1_ok, nmX1, k_232, fun _ => rfl, fun h => absurd h (by decide), fun h => absurd h (by decide)⟩
theorem fX7_45 : mm_FL RX7 45 1 2 := ⟨RX1, TX1, 14, tyX1, rfl, by decide, rfl, by decide, inX1, tyX1_ok, nmX1, k_216, fun h => absurd h (by decide), fun _ => Or.inl ⟨_, rfl⟩, fun h => absurd h (by decide)⟩
theorem fX7_60 : mm_FL RX7 60 1 1 := ⟨RX1, TX1, 14, tyX1, rfl, by decide, rfl, by decide, inX1, tyX1_ok, nmX1, k_213, fun h => absurd h (by decide), fun _ => Or.inl ⟨_, rfl⟩, fun h => absurd h (by decide)⟩
theorem fX7_105 : mm_FL RX7 105 1 11 := ⟨RX1, TX1, 14, tyX1, rfl, by decide, rfl, by decide, inX1, tyX1_ok, nmX1, k_240, fun _ => rfl, fun h => absurd h (by decide), fun h => absurd h (by decide)⟩
theorem fX7_108 : mm_FL RX7 108 1 6 := ⟨RX1, TX1, 14, tyX1, rfl, by decide, rfl, by decide, inX1, tyX1_ok, nmX1, k_225, fun h => absurd h (by decide), fun _ => Or.inl ⟨_, rfl⟩, fun h => absurd h (by decide)⟩
theorem fX7_111 : mm_FL RX7 111 1 7 := ⟨RX1, TX1, 14, tyX1, rfl, by decide, rfl, by decide, inX1, tyX1_ok, nmX1, k_227, fun h => absurd h (by decide), fun _ => Or.inl ⟨_, rfl⟩, fun h => absurd h (by decide)⟩
theorem fX7_114 : mm_FL RX7 114 1 8 := ⟨RX1, TX1, 14, tyX1, rfl, by decide, rfl, by decide, inX1, tyX1_ok, nmX1, k_229, fun h => absurd h (by decide), fun _ => Or.inl ⟨_, rfl⟩, fun h => absurd h (by decide)⟩
theorem fX8_9 : mm_FL RX8 9 8 0 := ⟨RX8, TX8, 2, tyX8, rfl, by decide, rfl, by decide, inX8, tyX8_ok, nmX8, k_29, fun h => absurd h (by decide), fun _ => Or.inl ⟨_, rfl⟩, fun h => absurd h (by decide)⟩
theorem ff_8_0 : ∀ z, vwCl[8]? = some z → (z.2.1 0).2.2.2 = true ∧ (z.2.1 0).1 = RX8 := fun q h => by cases h; exact ⟨rfl, rfl⟩
theorem fX8_15 : mm_FL RX8 15 8 1 := ⟨RX8, TX8, 2, tyX8, rfl, by decide, rfl, by decide, inX8, tyX8_ok, nmX8, k_30, fun _ => rfl, fun h => absurd h (by decide), fun h => absurd h (by decide)⟩
theorem fX10_7 : mm_FL RX10 7 10 1 := ⟨RX10, TX10, 41, tyX10, rfl, by decide, rfl, by decide, inX10, tyX10_ok, nmX10, k_730, fun h => absurd h (by decide), fun _ => Or.inl ⟨_, rfl⟩, fun h => absurd h (by decide)⟩
theorem ff_10_1 : ∀ z, vwCl[10]? = some z → (z.2.1 1).2.2.2 = true ∧ (z.2.1 1).1 = RX10 := fun q h => by cases h; exact ⟨rfl, rfl⟩
theorem fX10_13 : mm_FL RX10 13 10 5 := ⟨RX10, TX10, 41, tyX10, rfl, by decide, rfl, by decide, inX10, tyX10_ok, nmX10, k_734, fun h => absurd h (by decide), fun _ => Or.inl ⟨_, rfl⟩, fun h => absurd h (by decide)⟩
theorem ff_10_5 : ∀ z, vwCl[10]? = some z → (z.2.1 5).2.2.2 = true ∧ (z.2.1 5).1 = RX10 := fun q h => by cases h; exact ⟨rfl, rfl⟩
theorem fX10_16 : mm_FL RX10 16 10 7 := ⟨RX10, TX10, 41, tyX10, rfl, by decide, rfl, by decide, inX10, tyX10_ok, nmX10, k_736, fun h => absurd h (by decide), fun _ => Or.inl ⟨_, rfl⟩, fun h => absurd h (by decide)⟩
theorem ff_10_7 : ∀ z, vwCl[10]? = some z → (z.2.1 7).2.2.2 = true ∧ (z.2.1 7).1 = RX10 := fun q h => by cases h; exact ⟨rfl, rfl⟩
theorem fX10_19 : mm_FL RX10 19 10 9 := ⟨RX10, TX10, 41, tyX10, rfl, by decide, rfl, by decide, inX10, tyX10_ok, nmX10, k_738, fun h => absurd h (by decide), fun _ => Or.inl ⟨_, rfl⟩, fun h => absurd h (by decide)⟩
theorem ff_10_9 : ∀ z, vwCl[10]? = some z → (z.2.1 9).2.2.2 = true ∧ (z.2.1 9).1 = RX10 := fun q h => by cases h; exact ⟨rfl, rfl⟩
theorem fX10_22 : mm_FL RX10 22 10 13 := ⟨RX10, TX10, 41, tyX10, rfl, by decide, rfl, by decide, inX10, tyX10_ok, nmX10, k_742, fun h => absurd h (by decide), fun _ => Or.inl ⟨_, rfl⟩, fun h => absurd h (by decide)⟩
theorem ff_10_13 : ∀ z, vwCl[10]? = some z → (z.2.1 13).2.2.2 = true ∧ (z.2.1 13).1 = RX10 := fun q h => by cases h; exact ⟨rfl, rfl⟩
theorem fX10_25 : mm_FL RX10 25 10 15 := ⟨RX10, TX10, 41, tyX10, rfl, by decide, rfl, by decide, inX10, tyX10_ok, nmX10, k_744, fun h => absurd h (by decide), fun _ => Or.inl ⟨_, rfl⟩, fun h => absurd h (by decide)⟩
theorem ff_10_15 : ∀ z, vwCl[10]? = some z → (z.2.1 15).2.2.2 = true ∧ (z.2.1 15).1 = RX10 := fun q h => by cases h; exact ⟨rfl, rfl⟩
theorem fX10_28 : mm_FL RX10 28 10 17 := ⟨RX10, TX10, 41, tyX10, rfl, by decide, rfl, by decide, inX10, tyX10_ok, nmX10, k_746, fun h => absurd h (by decide), fun _ => Or.inl ⟨_, rfl⟩, fun h => absurd h (by decide)⟩
theorem ff_10_17 : ∀ z, vwCl[10]? = some z → (z.2.1 17).2.2.2 = true ∧ (z.2.1 17).1 = RX10 := fun q h => by cases h; exact ⟨rfl, rfl⟩
theorem fX10_31 : mm_FL RX10 31 10 18 := ⟨RX10, TX10, 41, tyX10, rfl, by decide, rfl, by decide, inX10, tyX10_ok, nmX10, k_747, fun h => absurd h (by decide), fun _ => Or.inl ⟨_, rfl⟩, fun h => absurd h (by decide)⟩
theorem ff_10_18 : ∀ z, vwCl[10]? = some z → (z.2.1 18).2.2.2 = true ∧ (z.2.1 18).1 = RX10 := fun q h => by cases h; exact ⟨rfl, rfl⟩
theorem fX10_34 : mm_FL RX10 34 10 19 := ⟨RX10, TX10, 41, tyX10, rfl, by decide, rfl, by decide, inX10, tyX10_ok, nmX10, k_748, fun h => absurd h (by decide), fun _ => Or.inl ⟨_, rfl⟩, fun h => absurd h (by decide)⟩
theorem ff_10_19 : ∀ z, vwCl[10]? = some z → (z.2.1 19).2.2.2 = true ∧ (z.2.1 19).1 = RX10 := fun q h => by cases h; exact ⟨rfl, rfl⟩
theorem fX10_37 : mm_FL RX10 37 10 20 := ⟨RX10, TX10, 41, tyX10, rfl, by decide, rfl, by decide, inX10, tyX10_ok, nmX10, k_749, fun h => absurd h (by decide), fun _ => Or.inl ⟨_, rfl⟩, fun h => absurd h (by decide)⟩
theorem ff_10_20 : ∀ z, vwCl[10]? = some z → (z.2.1 20).2.2.2 = true ∧ (z.2.1 20).1 = RX10 := fun q h => by cases h; exact ⟨rfl, rfl⟩
theorem fX10_40 : mm_FL RX10 40 10 21 := ⟨RX10, TX10, 41, tyX10, rfl, by decide, rfl, by decide, inX10, tyX10_ok, nmX10, k_750, fun h => absurd h (by decide), fun _ => Or.inl ⟨_, rfl⟩, fun h => absurd h (by decide)⟩
theorem ff_10_21 : ∀ z, vwCl[10]? = some z → (z.2.1 21).2.2.2 = true ∧ (z.2.1 21).1 = RX10 := fun q h => by cases h; exact ⟨rfl, rfl⟩
theorem fX10_43 : mm_FL RX10 43 10 23 := ⟨RX10, TX10, 41, tyX10, rfl, by decide, rfl, by decide, inX10, tyX10_ok, nmX10, k_752, fun h => absurd h (by decide), fun _ => Or.inl ⟨_, rfl⟩, fun h => absurd h (by decide)⟩
theorem ff_10_23 : ∀ z, vwCl[10]? = some z → (z.2.1 23).2.2.2 = true ∧ (z.2.1 23).1 = RX10 := fun q h => by cases h; exact ⟨rfl, rfl⟩
theorem fX10_46 : mm_FL RX10 46 10 24 := ⟨RX10, TX10, 41, tyX10, rfl, by decide, rfl, by decide, inX10, tyX10_ok, nmX10, k_753, fun h => absurd h (by decide), fun _ => Or.inl ⟨_, rfl⟩, fun h => absurd h (by decide)⟩
theorem ff_10_24 : ∀ z, vwCl[10]? = some z → (z.2.1 24).2.2.2 = true ∧ (z.2.1 24).1 = RX10 := fun q h => by cases h; exact ⟨rfl, rfl⟩
theorem fX10_50 : mm_FL RX10 50 10 26 := ⟨RX10, TX10, 41, tyX10, rfl, by decide, rfl, by decide, inX10, tyX10_ok, nmX10, k_755, fun h => absurd h (by decide), fun _ => Or.inl ⟨_, rfl⟩, fun h => absurd h (by decide)⟩
theorem ff_10_26 : ∀ z, vwCl[10]? = some z → (z.2.1 26).2.2.2 = true ∧ (z.2.1 26).1 = RX10 := fun q h => by cases h; exact ⟨rfl, rfl⟩
theorem fX10_53 : mm_FL RX10 53 10 27 := ⟨RX10, TX10, 41, tyX10, rfl, by decide, rfl, by decide, inX10, tyX10_ok, nmX10, k_756, fun h => absurd h (by decide), fun _ => Or.inl ⟨_, rfl⟩, fun h => absurd h (by decide)⟩
theorem ff_10_27 : ∀ z, vwCl[10]? = some z → (z.2.1 27).2.2.2 = true ∧ (z.2.1 27).1 = RX10 := fun q h => by cases h; exact ⟨rfl, rfl⟩
theorem fX10_56 : mm_FL RX10 56 10 28 := ⟨RX10, TX10, 41, tyX10, rfl, by decide, rfl, by decide, inX10, tyX10_ok, nmX10, k_757, fun h => absurd h (by decide), fun _ => Or.inl ⟨_, rfl⟩, fun h => absurd h (by decide)⟩
theorem ff_10_28 : ∀ z, vwCl[10]? = some z → (z.2.1 28).2.2.2 = true ∧ (z.2.1 28).1 = RX10 := fun q h => by cases h; exact ⟨rfl, rfl⟩
theorem fX10_59 : mm_FL RX10 59 10 31 := ⟨RX10, TX10, 41, tyX10, rfl, by decide, rfl, by decide, inX10, tyX10_ok, nmX10, k_760, fun h => absurd h (by decide), fun _ => Or.inl ⟨_, rfl⟩, fun h => absurd h (by decide)⟩
theorem ff_10_31 : ∀ z, vwCl[10]? = some z → (z.2.1 31).2.2.2 = true ∧ (z.2.1 31).1 = RX10 := fun q h => by cases h; exact ⟨rfl, rfl⟩
theorem fX10_62 : mm_FL RX10 62 10 32 := ⟨RX10, TX10, 41, tyX10, rfl, by decide, rfl, by decide, inX10, tyX10_ok, nmX10, k_761, fun h => absurd h (by decide), fun _ => Or.inl ⟨_, rfl⟩, fun h => absurd h (by decide)⟩
theorem ff_10_32 : ∀ z, vwCl[10]? = some z → (z.2.1 32).2.2.2 = true ∧ (z.2.1 32).1 = RX10 := fun q h => by cases h; exact ⟨rfl, rfl⟩
theorem fX10_65 : mm_FL RX10 65 10 39 := ⟨RX10, TX10, 41, tyX10, rfl, by decide, rfl, by decide, inX10, tyX10_ok, nmX10, k_768, fun h => absurd h (by decide), fun _ => Or.inl ⟨_, rfl⟩, fun h => absurd h (by decide)⟩
theorem ff_10_39 : ∀ z, vwCl[10]? = some z → (z.2.1 39).2.2.2 = true ∧ (z.2.1 39).1 = RX10 := fun q h => by cases h; exact ⟨rfl, rfl⟩
theorem fX10_68 : mm_FL RX10 68 10 40 := ⟨RX10, TX10, 41, tyX10, rfl, by decide, rfl, by decide, inX10, tyX10_ok, nmX10, k_769, fun h => absurd h (by decide), fun _ => Or.inl ⟨_, rfl⟩, fun h => absurd h (by decide)⟩
theorem ff_10_40 : ∀ z, vwCl[10]? = some z → (z.2.1 40).2.2.2 = true ∧ (z.2.1 40).1 = RX10 := fun q h => by cases h; exact ⟨rfl, rfl⟩
theorem fX10_71 : mm_FL RX10 71 10 0 := ⟨RX10, TX10, 41, tyX10, rfl, by decide, rfl, by decide, inX10, tyX10_ok, nmX10, k_729, fun _ => rfl, fun h => absurd h (by decide), fun h => absurd h (by decide)⟩
theorem fn_10_0 : mm_FN 10 0 := fun q h => by cases h; rfl
theorem fX10_75 : mm_FL RX10 75 10 4 := ⟨RX10, TX10, 41, tyX10, rfl, by decide, rfl, by decide, inX10, tyX10_ok, nmX10, k_733, fun _ => rfl, fun h => absurd h (by decide), fun h => absurd h (by decide)⟩
theorem fn_10_4 : mm_FN 10 4 := fun q h => by cases h; rfl
theorem fX10_82 : mm_FL RX10 82 10 6 := ⟨RX10, TX10, 41, tyX10, rfl, by decide, rfl, by decide, inX10, tyX10_ok, nmX10, k_735, fun _ => rfl, fun h => absurd h (by decide), fun h => absurd h (by decide)⟩
theorem fn_10_6 : mm_FN 10 6 := fun q h => by cases h; rfl
theorem fX10_87 : mm_FL RX10 87 10 2 := ⟨RX10, TX10, 41, tyX10, rfl, by decide, rfl, by decide, inX10, tyX10_ok, nmX10, k_731, fun _ => rfl, fun h => absurd h (by decide), fun h => absurd h (by decide)⟩
theorem fn_10_2 : mm_FN 10 2 := fun q h => by cases h; rfl
theorem fX10_90 : mm_FL RX10 90 10 3 := ⟨RX10, TX10, 41, tyX10, rfl, by decide, rfl, by decide, inX10, tyX10_ok, nmX10, k_732, fun _ => rfl, fun h => absurd h (by decide), fun h => absurd h (by decide)⟩
theorem fn_10_3 : mm_FN 10 3 := fun q h => by cases h; rfl
theorem fX10_95 : mm_FL RX10 95 10 12 := ⟨RX10, TX10, 41, tyX10, rfl, by decide, rfl, by decide, inX10, tyX10_ok, nmX10, k_741, fun _ => rfl, fun h => absurd h (by decide), fun h => absurd h (by decide)⟩
theorem fn_10_12 : mm_FN 10 12 := fun q h => by cases h; rfl
theorem fX10_106 : mm_FL RX10 106 10 14 := ⟨RX10, TX10, 41, tyX10, rfl, by decide, rfl, by decide, inX10, tyX10_ok, nmX10, k_743, fun _ => rfl, fun h => absurd h (by decide), fun h => absurd h (by decide)⟩
theorem fn_10_14 : mm_FN 10 14 := fun q h => by cases h; rfl
theorem fX10_109 : mm_FL RX10 109 10 16 := ⟨RX10, TX10, 41, tyX10, rfl, by decide, rfl, by decide, inX10, tyX10_ok, nmX10, k_745, fun _ => rfl, fun h => absurd h (by decide), fun h => absurd h (by decide)⟩
theorem fn_10_16 : mm_FN 10 16 := fun q h => by cases h; rfl
theorem fX10_122 : mm_FL RX10 122 10 10 := ⟨RX10, TX10, 41, tyX10, rfl, by decide, rfl, by decide, inX10, tyX10_ok, nmX10, k_739, fun _ => rfl, fun h => absurd h (by decide), fun h => absurd h (by decide)⟩
theorem fn_10_10 : mm_FN 10 10 := fun q h => by cases h; rfl
theorem fX10_125 : mm_FL RX10 125 10 11 := ⟨RX10, TX10, 41, tyX10, rfl, by decide, rfl, by decide, inX10, tyX10_ok, nmX10, k_740, fun _ => rfl, fun h => absurd h (by decide), fun h => absurd h (by decide)⟩
theorem fn_10_11 : mm_FN 10 11 := fun q h => by cases h; rfl
theorem fX10_134 : mm_FL RX10 134 10 8 := ⟨RX10, TX10, 41, tyX10, rfl, by decide, rfl, by decide, inX10, tyX10_ok, nmX10, k_737, fun _ => rfl, fun h => absurd h (by decide), fun h => absurd h (by decide)⟩
theorem fn_10_8 : mm_FN 10 8 := fun q h => by cases h; rfl
theorem fX10_141 : mm_FL RX10 141 10 22 := ⟨RX10, TX10, 41, tyX10, rfl, by decide, rfl, by decide, inX10, tyX10_ok, nmX10, k_751, fun _ => rfl, fun h => absurd h (by decide), fun h => absurd h (by decide)⟩
theorem fn_10_22 : mm_FN 10 22 := fun q h => by cases h; rfl
theorem fX10_152 : mm_FL RX10 152 10 30 := ⟨RX10, TX10, 41, tyX10, rfl, by decide, rfl, by decide, inX10, tyX10_ok, nmX10, k_759, fun _ => rfl, fun h => absurd h (by decide), fun h => absurd h (by decide)⟩
theorem fn_10_30 : mm_FN 10 30 := fun q h => by cases h; rfl
theorem fX10_176 : mm_FL RX10 176 10 25 := ⟨RX10, TX10, 41, tyX10, rfl, by decide, rfl, by decide, inX10, tyX10_ok, nmX10, k_754, fun _ => rfl, fun h => absurd h (by decide), fun h => absurd h (by decide)⟩
theorem fn_10_25 : mm_FN 10 25 := fun q h => by cases h; rfl
theorem fX10_206 : mm_FL RX10 206 10 33 := ⟨RX10, TX10, 41, tyX10, rfl, by decide, rfl, by decide, inX10, tyX10_ok, nmX10, k_762, fun _ => rfl, fun h => absurd h (by decide), fun h => absurd h (by decide)⟩
theorem fn_10_33 : mm_FN 10 33 := fun q h => by cases h; rfl
theorem fX10_209 : mm_FL RX10 209 10 34 := ⟨RX10, TX10, 41, tyX10, rfl, by decide, rfl, by decide, inX10, tyX10_ok, nmX10, k_763, fun _ => rfl, fun h => absurd h (by decide), fun h => absurd h (by decide)⟩
theorem fn_10_34 : mm_FN 10 34 := fun q h => by cases h; rfl
theorem fX10_222 : mm_FL RX10 222 10 35 := ⟨RX10, TX10, 41, tyX10, rfl, by decide, rfl, by decide, inX10, tyX10_ok, nmX10, k_764, fun _ => rfl, fun h => absurd h (by decide), fun h => absurd h (by decide)⟩
theorem fn_10_35 : mm_FN 10 35 := fun q h => by cases h; rfl
theorem fX10_225 : mm_FL RX10 225 10 36 := ⟨RX10, TX10, 41, tyX10, rfl, by decide, rfl, by decide, inX10, tyX10_ok, nmX10, k_765, fun _ => rfl, fun h => absurd h (by decide), fun h => absurd h (by decide)⟩
theorem fn_10_36 : mm_FN 10 36 := fun q h => by cases h; rfl
theorem fX10_258 : mm_FL RX10 258 10 37 := ⟨RX10, TX10, 41, tyX10, rfl, by decide, rfl, by decide, inX10, tyX10_ok, nmX10, k_766, fun _ => rfl, fun h => absurd h (by decide), fun h => absurd h (by decide)⟩
theorem fn_10_37 : mm_FN 10 37 := fun q h => by cases h; rfl
theorem fX10_261 : mm_FL RX10 261 10 38 := ⟨RX10, TX10, 41, tyX10, rfl, by decide, rfl, by decide, inX10, tyX10_ok, nmX10, k_767, fun _ => rfl, fun h => absurd h (by decide), fun h => absurd h (by decide)⟩
theorem fn_10_38 : mm_FN 10 38 := fun q h => by cases h; rfl
theorem fX10_269 : mm_FL RX10 269 10 29 := ⟨RX10, TX10, 41, tyX10, rfl, by decide, rfl, by decide, inX10, tyX10_ok, nmX10, k_758, fun h => absurd h (by decide), fun h => absurd h (by decide), fun _ => rfl⟩
theorem fn_10_29 : mm_FN 10 29 := fun q h => by cases h; rfl
theorem ln_X8_init : mm_Ln hX8_init 0 := ⟨k_27, k_2, by decide +kernel, by decide +kernel, by decide +kernel, by decide⟩
theorem lX9_9 : mm_LIN RX9 9 hX8_init 0 := ⟨ln_X8_init, List.mem_of_getElem? (i := 0) rfl, k_26, rfl⟩
theorem ln_X7_init : mm_Ln hX7_init 0 := ⟨k_43, k_3, by decide +kernel, by decide +kernel, by decide +kernel, by decide⟩
theorem lX9_18 : mm_LIN RX9 18 hX7_init 0 := ⟨ln_X7_init, List.mem_of_getElem? (i := 1) rfl, k_42, rfl⟩
theorem ln_X0_init : mm_Ln hX0_init 0 := ⟨k_81, k_4, by decide +kernel, by decide +kernel, by decide +kernel, by decide⟩
theorem lX9_25 : mm_LIN RX9 25 hX0_init 0 := ⟨ln_X0_init, List.mem_of_getElem? (i := 2) rfl, k_80, rfl⟩
theorem ln_X5_init : mm_Ln hX5_init 0 := ⟨k_105, k_6, by decide +kernel, by decide +kernel, by decide +kernel, by decide⟩
theorem lX9_32 : mm_LIN RX9 32 hX5_init 0 := ⟨ln_X5_init, List.mem_of_getElem? (i := 4) rfl, k_104, rfl⟩
theorem ln_X6_init : mm_Ln hX6_init 0 := ⟨k_125, k_7, by decide +kernel, by decide +kernel, by decide +kernel, by decide⟩
theorem lX9_39 : mm_LIN RX9 39 hX6_init 0 := ⟨ln_X6_init, List.mem_of_getElem? (i := 5) rfl, k_124, rfl⟩
theorem ln_X4_init : mm_Ln hX4_init 0 := ⟨k_140, k_8, by decide +kernel, by decide +kernel, by decide +kernel, by decide⟩
theorem lX9_46 : mm_LIN RX9 46 hX4_init 0 := ⟨ln_X4_init, List.mem_of_getElem? (i := 7) rfl, k_139, rfl⟩
theorem ln_X3_init : mm_Ln hX3_init 0 := ⟨k_159, k_9, by decide +kernel, by decide +kernel, by decide +kernel, by decide⟩
theorem lX9_53 : mm_LIN RX9 53 hX3_init 0 := ⟨ln_X3_init, List.mem_of_getElem? (i := 9) rfl, k_158, rfl⟩
theorem ln_X2_init : mm_Ln hX2_init 0 := ⟨k_185, k_10, by decide +kernel, by decide +kernel, by decide +kernel, by decide⟩
theorem lX9_60 : mm_LIN RX9 60 hX2_init 0 := ⟨ln_X2_init, List.mem_of_getElem? (i := 11) rfl, k_184, rfl⟩
theorem ln_X1_init : mm_Ln hX1_init 0 := ⟨k_208, k_11, by decide +kernel, by decide +kernel, by decide +kernel, by decide⟩
theorem lX9_67 : mm_LIN RX9 67 hX1_init 0 := ⟨ln_X1_init, List.mem_of_getElem? (i := 13) rfl, k_207, rfl⟩
theorem ln_X8_append : mm_Ln hX8_append 1 := ⟨k_315, k_2, by decide +kernel, by decide +kernel, by decide +kernel, by decide⟩
theorem lX9_79 : mm_LV RX9 79 hX8_append 1 := ⟨ln_X8_append, k_312, k_313, k_314⟩
theorem ln_X1_readFrom : mm_Ln hX1_readFrom 1 := ⟨k_327, k_11, by decide +kernel, by decide +kernel, by decide +kernel, by decide⟩
theorem lX9_87 : mm_LV RX9 87 hX1_readFrom 1 := ⟨ln_X1_readFrom, k_324, k_325, k_326⟩
theorem ln_X7_makeAnew : mm_Ln hX7_makeAnew 1 := ⟨k_364, k_3, by decide +kernel, by decide +kernel, by decide +kernel, by decide⟩
theorem lX9_91 : mm_LV RX9 91 hX7_makeAnew 1 := ⟨ln_X7_makeAnew, k_361, k_362, k_363⟩
theorem ln_X0_forgetAll : mm_Ln hX0_forgetAll 0 := ⟨k_368, k_4, by decide +kernel, by decide +kernel, by decide +kernel, by decide⟩
theorem lX9_95 : mm_LV RX9 95 hX0_forgetAll 0 := ⟨ln_X0_forgetAll, k_365, k_366, k_367⟩
theorem ln_X6_forgetAll : mm_Ln hX6_forgetAll 0 := ⟨k_372, k_7, by decide +kernel, by decide +kernel, by decide +kernel, by decide⟩
theorem lX9_98 : mm_LV RX9 98 hX6_forgetAll 0 := ⟨ln_X6_forgetAll, k_369, k_370, k_371⟩
theorem ln_X1_isHusk : mm_Ln hX1_isHusk 1 := ⟨k_384, k_11, by decide +kernel, by decide +kernel, by decide +kernel, by decide⟩
theorem lX9_121 : mm_LV RX9 121 hX1_isHusk 1 := ⟨ln_X1_isHusk, k_381, k_382, k_383⟩
theorem ln_X7_firmness : mm_Ln hX7_firmness 2 := ⟨k_388, k_3, by decide +kernel, by decide +kernel, by decide +kernel, by decide⟩
theorem lX9_134 : mm_LV RX9 134 hX7_firmness 2 := ⟨ln_X7_firmness, k_385, k_386, k_387⟩
theorem ln_X9_bit : mm_Ln hX9_bit 2 := ⟨k_391, k_1, by decide +kernel, by decide +kernel, by decide +kernel, by decide⟩
theorem lX9_147 : mm_LS RX9 147 hX9_bit 2 := ⟨ln_X9_bit, k_393, k_390⟩
theorem ln_X1_isThrower : mm_Ln hX1_isThrower 1 := ⟨k_401, k_11, by decide +kernel, by decide +kernel, by decide +kernel, by decide⟩
theorem lX9_154 : mm_LV RX9 154 hX1_isThrower 1 := ⟨ln_X1_isThrower, k_398, k_399, k_400⟩
theorem ln_X1_loosensBy : mm_Ln hX1_loosensBy 1 := ⟨k_405, k_11, by decide +kernel, by decide +kernel, by decide +kernel, by decide⟩
theorem lX9_166 : mm_LV RX9 166 hX1_loosensBy 1 := ⟨ln_X1_loosensBy, k_402, k_403, k_404⟩
theorem ln_X9_refusalOfThrow : mm_Ln hX9_refusalOfThrow 3 := ⟨k_413, k_1, by decide +kernel, by decide +kernel, by decide +kernel, by decide⟩
theorem lX9_170 : mm_LV RX9 170 hX9_refusalOfThrow 3 := ⟨ln_X9_refusalOfThrow, k_410, k_412, ks_4⟩
theorem ln_X1_landing : mm_Ln hX1_landing 4 := ⟨k_420, k_11, by decide +kernel, by decide +kernel, by decide +kernel, by decide⟩
theorem lX9_174 : mm_LV RX9 174 hX1_landing 4 := ⟨ln_X1_landing, k_417, k_418, k_419⟩
theorem ln_X0_remember : mm_Ln hX0_remember 1 := ⟨k_437, k_4, by decide +kernel, by decide +kernel, by decide +kernel, by decide⟩
theorem lX9_178 : mm_LV RX9 178 hX0_remember 1 := ⟨ln_X0_remember, k_434, k_435, k_436⟩
theorem ln_X7_throwBy : mm_Ln hX7_throwBy 4 := ⟨k_448, k_3, by decide +kernel, by decide +kernel, by decide +kernel, by decide⟩
theorem lX9_182 : mm_LV RX9 182 hX7_throwBy 4 := ⟨ln_X7_throwBy, k_445, k_446, k_447⟩
theorem ln_X7_isUp : mm_Ln hX7_isUp 1 := ⟨k_454, k_3, by decide +kernel, by decide +kernel, by decide +kernel, by decide⟩
theorem lX9_186 : mm_LV RX9 186 hX7_isUp 1 := ⟨ln_X7_isUp, k_472, k_452, k_453⟩
theorem ln_X7_setUp : mm_Ln hX7_setUp 1 := ⟨k_467, k_3, by decide +kernel, by decide +kernel, by decide +kernel, by decide⟩
theorem lX9_189 : mm_LV RX9 189 hX7_setUp 1 := ⟨ln_X7_setUp, k_473, k_465, k_466⟩
theorem ln_X7_turnNail : mm_Ln hX7_turnNail 1 := ⟨k_481, k_3, by decide +kernel, by decide +kernel, by decide +kernel, by decide⟩
theorem lX9_192 : mm_LV RX9 192 hX7_turnNail 1 := ⟨ln_X7_turnNail, k_478, k_479, k_480⟩
theorem ln_X7_takePenny : mm_Ln hX7_takePenny 0 := ⟨k_489, k_3, by decide +kernel, by decide +kernel, by decide +kernel, by decide⟩
theorem lX9_195 : mm_LV RX9 195 hX7_takePenny 0 := ⟨ln_X7_takePenny, k_486, k_487, k_488⟩
theorem ln_X0_takeBack : mm_Ln hX0_takeBack 1 := ⟨k_504, k_4, by decide +kernel, by decide +kernel, by decide +kernel, by decide⟩
theorem lX9_199 : mm_LV RX9 199 hX0_takeBack 1 := ⟨ln_X0_takeBack, k_501, k_502, k_503⟩
theorem ln_X4_downBehind : mm_Ln hX4_downBehind 5 := ⟨k_512, k_8, by decide +kernel, by decide +kernel, by decide +kernel, by decide⟩
theorem lX9_203 : mm_LV RX9 203 hX4_downBehind 5 := ⟨ln_X4_downBehind, k_509, k_510, k_511⟩
theorem ln_X4_firstRow : mm_Ln hX4_firstRow 4 := ⟨k_522, k_8, by decide +kernel, by decide +kernel, by decide +kernel, by decide⟩
theorem lX9_207 : mm_LV RX9 207 hX4_firstRow 4 := ⟨ln_X4_firstRow, k_519, k_520, k_521⟩
theorem ln_X1_reaches : mm_Ln hX1_reaches 3 := ⟨k_534, k_11, by decide +kernel, by decide +kernel, by decide +kernel, by decide⟩
theorem lX9_211 : mm_LV RX9 211 hX1_reaches 3 := ⟨ln_X1_reaches, k_545, k_532, k_533⟩
theorem ln_X4_matchAmong : mm_Ln hX4_matchAmong 3 := ⟨k_553, k_8, by decide +kernel, by decide +kernel, by decide +kernel, by decide⟩
theorem lX9_215 : mm_LV RX9 215 hX4_matchAmong 3 := ⟨ln_X4_matchAmong, k_550, k_551, k_552⟩
theorem ln_X4_fewestNails : mm_Ln hX4_fewestNails 3 := ⟨k_579, k_8, by decide +kernel, by decide +kernel, by decide +kernel, by decide⟩
theorem lX9_225 : mm_LV RX9 225 hX4_fewestNails 3 := ⟨ln_X4_fewestNails, k_576, k_577, k_578⟩
theorem ln_X9_hundreds : mm_Ln hX9_hundreds 1 := ⟨k_538, k_1, by decide +kernel, by decide +kernel, by decide +kernel, by decide⟩
theorem lX9_228 : mm_LS RX9 228 hX9_hundreds 1 := ⟨ln_X9_hundreds, k_589, k_537⟩
theorem ln_X4_firstThatCanNotBe : mm_Ln hX4_firstThatCanNotBe 4 := ⟨k_593, k_8, by decide +kernel, by decide +kernel, by decide +kernel, by decide⟩
theorem lX9_231 : mm_LV RX9 231 hX4_firstThatCanNotBe 4 := ⟨ln_X4_firstThatCanNotBe, k_590, k_591, k_592⟩
theorem ln_J6_bitCount_0f7a4 : mm_Ln hJ6_bitCount_0f7a4 1 := ⟨k_563, k_14, by decide +kernel, by decide +kernel, by decide +kernel, by decide⟩
theorem lX9_234 : mm_LS RX9 234 hJ6_bitCount_0f7a4 1 := ⟨ln_J6_bitCount_0f7a4, k_606, k_562⟩
theorem ln_X9_ordersOf : mm_Ln hX9_ordersOf 1 := ⟨k_609, k_1, by decide +kernel, by decide +kernel, by decide +kernel, by decide⟩
theorem lX9_239 : mm_LS RX9 239 hX9_ordersOf 1 := ⟨ln_X9_ordersOf, k_607, k_608⟩
theorem ln_X9_inLeastTerms : mm_Ln hX9_inLeastTerms 3 := ⟨k_614, k_1, by decide +kernel, by decide +kernel, by decide +kernel, by decide⟩
theorem lX9_242 : mm_LS RX9 242 hX9_inLeastTerms 3 := ⟨ln_X9_inLeastTerms, k_612, k_613⟩
theorem ln_X5_append : mm_Ln hX5_append 3 := ⟨k_625, k_6, by decide +kernel, by decide +kernel, by decide +kernel, by decide⟩
theorem lX9_246 : mm_LV RX9 246 hX5_append 3 := ⟨ln_X5_append, k_622, k_623, k_624⟩
theorem ln_X5_holdsOf : mm_Ln hX5_holdsOf 2 := ⟨k_637, k_6, by decide +kernel, by decide +kernel, by decide +kernel, by decide⟩
theorem lX9_248 : mm_LV RX9 248 hX5_holdsOf 2 := ⟨ln_X5_holdsOf, k_634, k_635, k_636⟩
theorem ln_X3_settle : mm_Ln hX3_settle 2 := ⟨k_649, k_9, by decide +kernel, by decide +kernel, by decide +kernel, by decide⟩
theorem lX9_251 : mm_LV RX9 251 hX3_settle 2 := ⟨ln_X3_settle, k_646, k_647, k_648⟩
theorem ln_X9_isPlace : mm_Ln hX9_isPlace 1 := ⟨k_416, k_1, by decide +kernel, by decide +kernel, by decide +kernel, by decide⟩
theorem lX9_259 : mm_LS RX9 259 hX9_isPlace 1 := ⟨ln_X9_isPlace, k_414, k_415⟩
theorem ln_X2_waysDown : mm_Ln hX2_waysDown 4 := ⟨k_674, k_10, by decide +kernel, by decide +kernel, by decide +kernel, by decide⟩
theorem lX9_270 : mm_LV RX9 270 hX2_waysDown 4 := ⟨ln_X2_waysDown, k_671, k_672, k_673⟩
theorem ln_X2_allWays : mm_Ln hX2_allWays 1 := ⟨k_683, k_10, by decide +kernel, by decide +kernel, by decide +kernel, by decide⟩
theorem lX9_273 : mm_LS RX9 273 hX2_allWays 1 := ⟨ln_X2_allWays, k_681, k_682⟩
theorem ln_X2_startFrom : mm_Ln hX2_startFrom 1 := ⟨k_695, k_10, by decide +kernel, by decide +kernel, by decide +kernel, by decide⟩
theorem lX9_276 : mm_LV RX9 276 hX2_startFrom 1 := ⟨ln_X2_startFrom, k_692, k_693, k_694⟩
theorem ln_X2_downBehindDrawn : mm_Ln hX2_downBehindDrawn 2 := ⟨k_702, k_10, by decide +kernel, by decide +kernel, by decide +kernel, by decide⟩
theorem lX9_285 : mm_LV RX9 285 hX2_downBehindDrawn 2 := ⟨ln_X2_downBehindDrawn, k_699, k_700, k_701⟩
theorem ln_X6_put : mm_Ln hX6_put 2 := ⟨k_712, k_7, by decide +kernel, by decide +kernel, by decide +kernel, by decide⟩
theorem lX9_288 : mm_LV RX9 288 hX6_put 2 := ⟨ln_X6_put, k_709, k_710, k_711⟩
theorem ln_X7_howManyDown : mm_Ln hX7_howManyDown 0 := ⟨k_560, k_3, by decide +kernel, by decide +kernel, by decide +kernel, by decide⟩
theorem lX9_292 : mm_LV RX9 292 hX7_howManyDown 0 := ⟨ln_X7_howManyDown, k_714, k_558, k_559⟩
theorem ln_X6_get : mm_Ln hX6_get 2 := ⟨k_722, k_7, by decide +kernel, by decide +kernel, by decide +kernel, by decide⟩
theorem lX9_296 : mm_LV RX9 296 hX6_get 2 := ⟨ln_X6_get, k_719, k_720, k_721⟩
theorem ln_J9_max_7cf53 : mm_Ln hJ9_max_7cf53 2 := ⟨k_88, k_5, by decide +kernel, by decide +kernel, by decide +kernel, by decide⟩
theorem lX9_299 : mm_LS RX9 299 hJ9_max_7cf53 2 := ⟨ln_J9_max_7cf53, k_86, k_87⟩
theorem ln_X9_commonDivisor : mm_Ln hX9_commonDivisor 2 := ⟨k_617, k_1, by decide +kernel, by decide +kernel, by decide +kernel, by decide⟩
theorem lX9_310 : mm_LS RX9 310 hX9_commonDivisor 2 := ⟨ln_X9_commonDivisor, k_615, k_616⟩
theorem ln_X9_newStands : mm_Ln hX9_newStands 1 := ⟨k_85, k_1, by decide +kernel, by decide +kernel, by decide +kernel, by decide⟩
theorem lX0_9 : mm_LSN RX0 9 hX9_newStands 1 := ⟨ln_X9_newStands, List.mem_of_getElem? (i := 3) rfl, k_84⟩
theorem ln_X7_becomeAs : mm_Ln hX7_becomeAs 1 := ⟨k_441, k_3, by decide +kernel, by decide +kernel, by decide +kernel, by decide⟩
theorem lX0_26 : mm_LV RX0 26 hX7_becomeAs 1 := ⟨ln_X7_becomeAs, k_438, k_439, k_440⟩
theorem ln_X8_letterAt : mm_Ln hX8_letterAt 1 := ⟨k_331, k_2, by decide +kernel, by decide +kernel, by decide +kernel, by decide⟩
theorem lX1_55 : mm_LV RX1 55 hX8_letterAt 1 := ⟨ln_X8_letterAt, k_328, k_329, k_330⟩
theorem ln_X8_figureAt : mm_Ln hX8_figureAt 3 := ⟨k_335, k_2, by decide +kernel, by decide +kernel, by decide +kernel, by decide⟩
theorem lX1_61 : mm_LV RX1 61 hX8_figureAt 3 := ⟨ln_X8_figureAt, k_332, k_333, k_334⟩
theorem ln_X1_readPart : mm_Ln hX1_readPart 2 := ⟨k_340, k_11, by decide +kernel, by decide +kernel, by decide +kernel, by decide⟩
theorem lX1_68 : mm_LV RX1 68 hX1_readPart 2 := ⟨ln_X1_readPart, k_337, k_339, ks_0⟩
theorem ln_X1_readHusk : mm_Ln hX1_readHusk 2 := ⟨k_344, k_11, by decide +kernel, by decide +kernel, by decide +kernel, by decide⟩
theorem lX1_72 : mm_LV RX1 72 hX1_readHusk 2 := ⟨ln_X1_readHusk, k_341, k_343, ks_1⟩
theorem ln_X1_readThrower : mm_Ln hX1_readThrower 2 := ⟨k_352, k_11, by decide +kernel, by decide +kernel, by decide +kernel, by decide⟩
theorem lX1_75 : mm_LV RX1 75 hX1_readThrower 2 := ⟨ln_X1_readThrower, k_349, k_351, ks_2⟩
theorem ln_X1_readLaw : mm_Ln hX1_readLaw 2 := ⟨k_356, k_11, by decide +kernel, by decide +kernel, by decide +kernel, by decide⟩
theorem lX1_78 : mm_LV RX1 78 hX1_readLaw 2 := ⟨ln_X1_readLaw, k_353, k_355, ks_3⟩
theorem ln_X1_huskAt : mm_Ln hX1_huskAt 1 := ⟨k_348, k_11, by decide +kernel, by decide +kernel, by decide +kernel, by decide⟩
theorem lX1_81 : mm_LV RX1 81 hX1_huskAt 1 := ⟨ln_X1_huskAt, k_345, k_346, k_347⟩
theorem ln_X1_astray : mm_Ln hX1_astray 2 := ⟨k_424, k_11, by decide +kernel, by decide +kernel, by decide +kernel, by decide⟩
theorem lX1_84 : mm_LV RX1 84 hX1_astray 2 := ⟨ln_X1_astray, k_421, k_423, ks_5⟩
theorem ln_X1_drift : mm_Ln hX1_drift 2 := ⟨k_428, k_11, by decide +kernel, by decide +kernel, by decide +kernel, by decide⟩
theorem lX1_88 : mm_LV RX1 88 hX1_drift 2 := ⟨ln_X1_drift, k_425, k_427, ks_6⟩
theorem lX1_91 : mm_LSN RX1 91 hX9_isPlace 1 := ⟨ln_X9_isPlace, List.mem_of_getElem? (i := 15) rfl, k_415⟩
theorem lX2_9 : mm_LSN RX2 9 hX9_newStands 1 := ⟨ln_X9_newStands, List.mem_of_getElem? (i := 12) rfl, k_84⟩
theorem lX2_29 : mm_LV RX2 29 hX7_becomeAs 1 := ⟨ln_X7_becomeAs, k_675, k_439, k_440⟩
theorem ln_X2_waysFrom : mm_Ln hX2_waysFrom 5 := ⟨k_678, k_10, by decide +kernel, by decide +kernel, by decide +kernel, by decide⟩
theorem lX2_35 : mm_LS RX2 35 hX2_waysFrom 5 := ⟨ln_X2_waysFrom, k_676, k_677⟩
theorem lX2_39 : mm_LV RX2 39 hX7_isUp 1 := ⟨ln_X7_isUp, k_679, k_452, k_453⟩
theorem lX2_43 : mm_LV RX2 43 hX7_throwBy 4 := ⟨ln_X7_throwBy, k_680, k_446, k_447⟩
theorem lX2_47 : mm_LV RX2 47 hX1_isThrower 1 := ⟨ln_X1_isThrower, k_703, k_399, k_400⟩
theorem lX2_52 : mm_LV RX2 52 hX7_howManyDown 0 := ⟨ln_X7_howManyDown, k_704, k_558, k_559⟩
theorem lX3_20 : mm_LIN RX3 20 hX7_init 0 := ⟨ln_X7_init, List.mem_of_getElem? (i := 10) rfl, k_42, rfl⟩
theorem ln_X3_weigh : mm_Ln hX3_weigh 4 := ⟨k_653, k_9, by decide +kernel, by decide +kernel, by decide +kernel, by decide⟩
theorem lX3_37 : mm_LV RX3 37 hX3_weigh 4 := ⟨ln_X3_weigh, k_650, k_652, ks_10⟩
theorem ln_X3_isRest : mm_Ln hX3_isRest 3 := ⟨k_666, k_9, by decide +kernel, by decide +kernel, by decide +kernel, by decide⟩
theorem lX3_41 : mm_LV RX3 41 hX3_isRest 3 := ⟨ln_X3_isRest, k_663, k_665, ks_12⟩
theorem lX3_45 : mm_LV RX3 45 hX7_becomeAs 1 := ⟨ln_X7_becomeAs, k_654, k_439, k_440⟩
theorem ln_X3_costOf : mm_Ln hX3_costOf 3 := ⟨k_658, k_9, by decide +kernel, by decide +kernel, by decide +kernel, by decide⟩
theorem lX3_49 : mm_LV RX3 49 hX3_costOf 3 := ⟨ln_X3_costOf, k_655, k_657, ks_11⟩
theorem lX3_53 : mm_LV RX3 53 hX7_isUp 1 := ⟨ln_X7_isUp, k_662, k_452, k_453⟩
theorem lX3_57 : mm_LV RX3 57 hX1_isHusk 1 := ⟨ln_X1_isHusk, k_659, k_382, k_383⟩
theorem ln_X7_canBeThrownAt : mm_Ln hX7_canBeThrownAt 3 := ⟨k_530, k_3, by decide +kernel, by decide +kernel, by decide +kernel, by decide⟩
theorem lX3_60 : mm_LV RX3 60 hX7_canBeThrownAt 3 := ⟨ln_X7_canBeThrownAt, k_660, k_528, k_529⟩
theorem ln_X7_strike : mm_Ln hX7_strike 3 := ⟨k_458, k_3, by decide +kernel, by decide +kernel, by decide +kernel, by decide⟩
theorem lX3_64 : mm_LV RX3 64 hX7_strike 3 := ⟨ln_X7_strike, k_661, k_456, k_457⟩
theorem lX4_9 : mm_LSN RX4 9 hX9_newStands 1 := ⟨ln_X9_newStands, List.mem_of_getElem? (i := 8) rfl, k_84⟩
theorem lX4_26 : mm_LV RX4 26 hX7_becomeAs 1 := ⟨ln_X7_becomeAs, k_513, k_439, k_440⟩
theorem lX4_32 : mm_LV RX4 32 hX7_throwBy 4 := ⟨ln_X7_throwBy, k_514, k_446, k_447⟩
theorem ln_X4_rowFrom : mm_Ln hX4_rowFrom 5 := ⟨k_525, k_8, by decide +kernel, by decide +kernel, by decide +kernel, by decide⟩
theorem lX4_39 : mm_LS RX4 39 hX4_rowFrom 5 := ⟨ln_X4_rowFrom, k_523, k_524⟩
theorem lX4_43 : mm_LV RX4 43 hX7_isUp 1 := ⟨ln_X7_isUp, k_526, k_452, k_453⟩
theorem lX4_55 : mm_LV RX4 55 hX7_canBeThrownAt 3 := ⟨ln_X7_canBeThrownAt, k_527, k_528, k_529⟩
theorem lX4_59 : mm_LV RX4 59 hX7_strike 3 := ⟨ln_X7_strike, k_535, k_456, k_457⟩
theorem lX4_63 : mm_LSN RX4 63 hX9_hundreds 1 := ⟨ln_X9_hundreds, List.mem_of_getElem? (i := 16) rfl, k_537⟩
theorem ln_X4_matchFrom : mm_Ln hX4_matchFrom 5 := ⟨k_556, k_8, by decide +kernel, by decide +kernel, by decide +kernel, by decide⟩
theorem lX4_67 : mm_LS RX4 67 hX4_matchFrom 5 := ⟨ln_X4_matchFrom, k_554, k_555⟩
theorem lX4_71 : mm_LV RX4 71 hX7_howManyDown 0 := ⟨ln_X7_howManyDown, k_557, k_558, k_559⟩
theorem ln_X4_weigh : mm_Ln hX4_weigh 2 := ⟨k_570, k_8, by decide +kernel, by decide +kernel, by decide +kernel, by decide⟩
theorem lX4_75 : mm_LV RX4 75 hX4_weigh 2 := ⟨ln_X4_weigh, k_567, k_569, ks_7⟩
theorem lX4_79 : mm_LSN RX4 79 hX9_bit 2 := ⟨ln_X9_bit, List.mem_of_getElem? (i := 17) rfl, k_390⟩
theorem lX4_86 : mm_LS RX4 86 hJ6_bitCount_0f7a4 1 := ⟨ln_J6_bitCount_0f7a4, k_580, k_562⟩
theorem ln_X4_staysUp : mm_Ln hX4_staysUp 4 := ⟨k_584, k_8, by decide +kernel, by decide +kernel, by decide +kernel, by decide⟩
theorem lX4_91 : mm_LV RX4 91 hX4_staysUp 4 := ⟨ln_X4_staysUp, k_581, k_583, ks_8⟩
theorem ln_X4_couldBeDone : mm_Ln hX4_couldBeDone 4 := ⟨k_596, k_8, by decide +kernel, by decide +kernel, by decide +kernel, by decide⟩
theorem lX4_95 : mm_LS RX4 95 hX4_couldBeDone 4 := ⟨ln_X4_couldBeDone, k_594, k_595⟩
theorem lX4_98 : mm_LV RX4 98 hX7_takePenny 0 := ⟨ln_X7_takePenny, k_597, k_487, k_488⟩
theorem lX4_102 : mm_LV RX4 102 hX1_isHusk 1 := ⟨ln_X1_isHusk, k_598, k_382, k_383⟩
theorem lX4_105 : mm_LV RX4 105 hX7_setUp 1 := ⟨ln_X7_setUp, k_599, k_465, k_466⟩
theorem lX4_108 : mm_LV RX4 108 hX7_turnNail 1 := ⟨ln_X7_turnNail, k_600, k_479, k_480⟩
theorem lX4_111 : mm_LV RX4 111 hX1_isThrower 1 := ⟨ln_X1_isThrower, k_601, k_399, k_400⟩
theorem ln_X5_agree : mm_Ln hX5_agree 2 := ⟨k_641, k_6, by decide +kernel, by decide +kernel, by decide +kernel, by decide⟩
theorem lX5_25 : mm_LV RX5 25 hX5_agree 2 := ⟨ln_X5_agree, k_638, k_640, ks_9⟩
theorem lX6_9 : mm_LSN RX6 9 hX9_newStands 1 := ⟨ln_X9_newStands, List.mem_of_getElem? (i := 6) rfl, k_84⟩
theorem lX6_23 : mm_LV RX6 23 hX7_becomeAs 1 := ⟨ln_X7_becomeAs, k_713, k_439, k_440⟩
theorem lX7_54 : mm_LS RX7 54 hJ6_bitCount_0f7a4 1 := ⟨ln_J6_bitCount_0f7a4, k_561, k_562⟩
theorem lX7_63 : mm_LSN RX7 63 hX9_bit 2 := ⟨ln_X9_bit, List.mem_of_getElem? (i := 14) rfl, k_390⟩
theorem lX7_67 : mm_LS RX7 67 hJ9_max_7cf53 2 := ⟨ln_J9_max_7cf53, k_392, k_87⟩
theorem lX7_72 : mm_LV RX7 72 hX7_isUp 1 := ⟨ln_X7_isUp, k_451, k_452, k_453⟩
theorem ln_J9_min_7cf53 : mm_Ln hJ9_min_7cf53 2 := ⟨k_492, k_5, by decide +kernel, by decide +kernel, by decide +kernel, by decide⟩
theorem lX7_76 : mm_LS RX7 76 hJ9_min_7cf53 2 := ⟨ln_J9_min_7cf53, k_490, k_491⟩
theorem lX7_79 : mm_LV RX7 79 hX1_landing 4 := ⟨ln_X1_landing, k_449, k_418, k_419⟩
theorem lX7_83 : mm_LV RX7 83 hX1_huskAt 1 := ⟨ln_X1_huskAt, k_450, k_346, k_347⟩
theorem lX7_86 : mm_LV RX7 86 hX7_strike 3 := ⟨ln_X7_strike, k_455, k_456, k_457⟩
theorem lX7_90 : mm_LV RX7 90 hX1_reaches 3 := ⟨ln_X1_reaches, k_531, k_532, k_533⟩
theorem lX7_94 : mm_LV RX7 94 hX1_loosensBy 1 := ⟨ln_X1_loosensBy, k_459, k_403, k_404⟩
theorem lX7_97 : mm_LV RX7 97 hX7_firmness 2 := ⟨ln_X7_firmness, k_460, k_386, k_387⟩
theorem ln_X7_fall : mm_Ln hX7_fall 5 := ⟨k_463, k_3, by decide +kernel, by decide +kernel, by decide +kernel, by decide⟩
theorem lX7_101 : mm_LS RX7 101 hX7_fall 5 := ⟨ln_X7_fall, k_461, k_462⟩
theorem lX7_117 : mm_LV RX7 117 hX7_setUp 1 := ⟨ln_X7_setUp, k_464, k_465, k_466⟩
theorem lX8_19 : mm_LV RX8 19 hX8_letterAt 1 := ⟨ln_X8_letterAt, k_336, k_329, k_330⟩
theorem ln_X9_init : mm_Ln hX9_init 0 := ⟨k_19, k_1, by decide +kernel, by decide +kernel, by decide +kernel, by decide⟩
theorem lL_9 : mm_LI RL 9 hX9_init 0 := ⟨ln_X9_init, k_17, k_18, rfl⟩
theorem ln_X10_init : mm_Ln hX10_init 0 := ⟨k_727, k_12, by decide +kernel, by decide +kernel, by decide +kernel, by decide⟩
theorem lL_12 : mm_LI RL 12 hX10_init 0 := ⟨ln_X10_init, k_725, k_726, rfl⟩
theorem ln_X9_write : mm_Ln hX9_write 1 := ⟨k_311, k_1, by decide +kernel, by decide +kernel, by decide +kernel, by decide⟩
theorem lL_13 : mm_LV RL 13 hX9_write 1 := ⟨ln_X9_write, k_308, k_309, k_310⟩
theorem ln_X10_write : mm_Ln hX10_write 1 := ⟨k_856, k_12, by decide +kernel, by decide +kernel, by decide +kernel, by decide⟩
theorem lL_17 : mm_LV RL 17 hX10_write 1 := ⟨ln_X10_write, k_853, k_854, k_855⟩
theorem ln_X9_wipe : mm_Ln hX9_wipe 0 := ⟨k_319, k_1, by decide +kernel, by decide +kernel, by decide +kernel, by decide⟩
theorem lL_18 : mm_LV RL 18 hX9_wipe 0 := ⟨ln_X9_wipe, k_316, k_317, k_318⟩
theorem ln_X10_wipe : mm_Ln hX10_wipe 0 := ⟨k_864, k_12, by decide +kernel, by decide +kernel, by decide +kernel, by decide⟩
theorem lL_22 : mm_LV RL 22 hX10_wipe 0 := ⟨ln_X10_wipe, k_861, k_862, k_863⟩
theorem ln_X9_fault : mm_Ln hX9_fault 0 := ⟨k_323, k_1, by decide +kernel, by decide +kernel, by decide +kernel, by decide⟩
theorem lL_23 : mm_LV RL 23 hX9_fault 0 := ⟨ln_X9_fault, k_320, k_321, k_322⟩
theorem ln_X10_fault : mm_Ln hX10_fault 0 := ⟨k_868, k_12, by decide +kernel, by decide +kernel, by decide +kernel, by decide⟩
theorem lL_26 : mm_LV RL 26 hX10_fault 0 := ⟨ln_X10_fault, k_865, k_866, k_867⟩
theorem ln_X9_fair : mm_Ln hX9_fair 0 := ⟨k_360, k_1, by decide +kernel, by decide +kernel, by decide +kernel, by decide⟩
theorem lL_27 : mm_LV RL 27 hX9_fair 0 := ⟨ln_X9_fair, k_357, k_358, k_359⟩
theorem ln_X10_fair : mm_Ln hX10_fair 0 := ⟨k_901, k_12, by decide +kernel, by decide +kernel, by decide +kernel, by decide⟩
theorem lL_30 : mm_LV RL 30 hX10_fair 0 := ⟨ln_X10_fair, k_898, k_899, k_900⟩
theorem ln_X9_about : mm_Ln hX9_about 1 := ⟨k_376, k_1, by decide +kernel, by decide +kernel, by decide +kernel, by decide⟩
theorem lL_31 : mm_LV RL 31 hX9_about 1 := ⟨ln_X9_about, k_373, k_374, k_375⟩
theorem ln_X10_about : mm_Ln hX10_about 1 := ⟨k_908, k_12, by decide +kernel, by decide +kernel, by decide +kernel, by decide⟩
theorem lL_34 : mm_LV RL 34 hX10_about 1 := ⟨ln_X10_about, k_905, k_906, k_907⟩
theorem ln_X9_husk : mm_Ln hX9_husk 2 := ⟨k_380, k_1, by decide +kernel, by decide +kernel, by decide +kernel, by decide⟩
theorem lL_35 : mm_LV RL 35 hX9_husk 2 := ⟨ln_X9_husk, k_377, k_378, k_379⟩
theorem ln_X10_husk : mm_Ln hX10_husk 2 := ⟨k_912, k_12, by decide +kernel, by decide +kernel, by decide +kernel, by decide⟩
theorem lL_39 : mm_LV RL 39 hX10_husk 2 := ⟨ln_X10_husk, k_909, k_910, k_911⟩
theorem ln_X9_thrower : mm_Ln hX9_thrower 2 := ⟨k_397, k_1, by decide +kernel, by decide +kernel, by decide +kernel, by decide⟩
theorem lL_40 : mm_LV RL 40 hX9_thrower 2 := ⟨ln_X9_thrower, k_394, k_395, k_396⟩
theorem ln_X10_thrower : mm_Ln hX10_thrower 2 := ⟨k_927, k_12, by decide +kernel, by decide +kernel, by decide +kernel, by decide⟩
theorem lL_43 : mm_LV RL 43 hX10_thrower 2 := ⟨ln_X10_thrower, k_924, k_925, k_926⟩
theorem ln_X9_lands : mm_Ln hX9_lands 3 := ⟨k_409, k_1, by decide +kernel, by decide +kernel, by decide +kernel, by decide⟩
theorem lL_44 : mm_LV RL 44 hX9_lands 3 := ⟨ln_X9_lands, k_406, k_407, k_408⟩
theorem ln_X10_lands : mm_Ln hX10_lands 3 := ⟨k_940, k_12, by decide +kernel, by decide +kernel, by decide +kernel, by decide⟩
theorem lL_48 : mm_LV RL 48 hX10_lands 3 := ⟨ln_X10_lands, k_937, k_938, k_939⟩
theorem ln_X9_toss : mm_Ln hX9_toss 3 := ⟨k_433, k_1, by decide +kernel, by decide +kernel, by decide +kernel, by decide⟩
theorem lL_49 : mm_LV RL 49 hX9_toss 3 := ⟨ln_X9_toss, k_430, k_431, k_432⟩
theorem ln_X10_toss : mm_Ln hX10_toss 3 := ⟨k_956, k_12, by decide +kernel, by decide +kernel, by decide +kernel, by decide⟩
theorem lL_52 : mm_LV RL 52 hX10_toss 3 := ⟨ln_X10_toss, k_953, k_954, k_955⟩
theorem ln_X9_set : mm_Ln hX9_set 1 := ⟨k_471, k_1, by decide +kernel, by decide +kernel, by decide +kernel, by decide⟩
theorem lL_53 : mm_LV RL 53 hX9_set 1 := ⟨ln_X9_set, k_468, k_469, k_470⟩
theorem ln_X10_set : mm_Ln hX10_set 1 := ⟨k_979, k_12, by decide +kernel, by decide +kernel, by decide +kernel, by decide⟩
theorem lL_56 : mm_LV RL 56 hX10_set 1 := ⟨ln_X10_set, k_976, k_977, k_978⟩
theorem ln_X9_nail : mm_Ln hX9_nail 1 := ⟨k_477, k_1, by decide +kernel, by decide +kernel, by decide +kernel, by decide⟩
theorem lL_57 : mm_LV RL 57 hX9_nail 1 := ⟨ln_X9_nail, k_474, k_475, k_476⟩
theorem ln_X10_nail : mm_Ln hX10_nail 1 := ⟨k_983, k_12, by decide +kernel, by decide +kernel, by decide +kernel, by decide⟩
theorem lL_60 : mm_LV RL 60 hX10_nail 1 := ⟨ln_X10_nail, k_980, k_981, k_982⟩
theorem ln_X9_pay : mm_Ln hX9_pay 0 := ⟨k_485, k_1, by decide +kernel, by decide +kernel, by decide +kernel, by decide⟩
theorem lL_61 : mm_LV RL 61 hX9_pay 0 := ⟨ln_X9_pay, k_482, k_483, k_484⟩
theorem ln_X10_pay : mm_Ln hX10_pay 0 := ⟨k_987, k_12, by decide +kernel, by decide +kernel, by decide +kernel, by decide⟩
theorem lL_64 : mm_LV RL 64 hX10_pay 0 := ⟨ln_X10_pay, k_984, k_985, k_986⟩
theorem ln_X9_blow : mm_Ln hX9_blow 1 := ⟨k_496, k_1, by decide +kernel, by decide +kernel, by decide +kernel, by decide⟩
theorem lL_65 : mm_LV RL 65 hX9_blow 1 := ⟨ln_X9_blow, k_493, k_494, k_495⟩
theorem ln_X10_blow : mm_Ln hX10_blow 1 := ⟨k_994, k_12, by decide +kernel, by decide +kernel, by decide +kernel, by decide⟩
theorem lL_68 : mm_LV RL 68 hX10_blow 1 := ⟨ln_X10_blow, k_991, k_992, k_993⟩
theorem ln_X9_undo : mm_Ln hX9_undo 0 := ⟨k_500, k_1, by decide +kernel, by decide +kernel, by decide +kernel, by decide⟩
theorem lL_69 : mm_LV RL 69 hX9_undo 0 := ⟨ln_X9_undo, k_497, k_498, k_499⟩
theorem ln_X10_undo : mm_Ln hX10_undo 0 := ⟨k_998, k_12, by decide +kernel, by decide +kernel, by decide +kernel, by decide⟩
theorem lL_72 : mm_LV RL 72 hX10_undo 0 := ⟨ln_X10_undo, k_995, k_996, k_997⟩
theorem ln_X9_felled : mm_Ln hX9_felled 3 := ⟨k_508, k_1, by decide +kernel, by decide +kernel, by decide +kernel, by decide⟩
theorem lL_73 : mm_LV RL 73 hX9_felled 3 := ⟨ln_X9_felled, k_505, k_506, k_507⟩
theorem ln_X10_felled : mm_Ln hX10_felled 3 := ⟨k_1002, k_12, by decide +kernel, by decide +kernel, by decide +kernel, by decide⟩
theorem lL_76 : mm_LV RL 76 hX10_felled 3 := ⟨ln_X10_felled, k_999, k_1000, k_1001⟩
theorem ln_X9_fewest : mm_Ln hX9_fewest 2 := ⟨k_518, k_1, by decide +kernel, by decide +kernel, by decide +kernel, by decide⟩
theorem lL_77 : mm_LV RL 77 hX9_fewest 2 := ⟨ln_X9_fewest, k_515, k_516, k_517⟩
theorem ln_X10_fewest : mm_Ln hX10_fewest 2 := ⟨k_1006, k_12, by decide +kernel, by decide +kernel, by decide +kernel, by decide⟩
theorem lL_81 : mm_LV RL 81 hX10_fewest 2 := ⟨ln_X10_fewest, k_1003, k_1004, k_1005⟩
theorem ln_X9_winds : mm_Ln hX9_winds 2 := ⟨k_544, k_1, by decide +kernel, by decide +kernel, by decide +kernel, by decide⟩
theorem lL_82 : mm_LV RL 82 hX9_winds 2 := ⟨ln_X9_winds, k_541, k_542, k_543⟩
theorem ln_X10_winds : mm_Ln hX10_winds 2 := ⟨k_1025, k_12, by decide +kernel, by decide +kernel, by decide +kernel, by decide⟩
theorem lL_85 : mm_LV RL 85 hX10_winds 2 := ⟨ln_X10_winds, k_1022, k_1023, k_1024⟩
theorem ln_X9_match : mm_Ln hX9_match 1 := ⟨k_549, k_1, by decide +kernel, by decide +kernel, by decide +kernel, by decide⟩
theorem lL_86 : mm_LV RL 86 hX9_match 1 := ⟨ln_X9_match, k_546, k_547, k_548⟩
theorem ln_X10_match : mm_Ln hX10_match 1 := ⟨k_1029, k_12, by decide +kernel, by decide +kernel, by decide +kernel, by decide⟩
theorem lL_90 : mm_LV RL 90 hX10_match 1 := ⟨ln_X10_match, k_1026, k_1027, k_1028⟩
theorem ln_X9_nails : mm_Ln hX9_nails 1 := ⟨k_575, k_1, by decide +kernel, by decide +kernel, by decide +kernel, by decide⟩
theorem lL_91 : mm_LV RL 91 hX9_nails 1 := ⟨ln_X9_nails, k_572, k_573, k_574⟩
theorem ln_X10_nails : mm_Ln hX10_nails 1 := ⟨k_1040, k_12, by decide +kernel, by decide +kernel, by decide +kernel, by decide⟩
theorem lL_94 : mm_LV RL 94 hX10_nails 1 := ⟨ln_X10_nails, k_1037, k_1038, k_1039⟩
theorem ln_X9_judge : mm_Ln hX9_judge 2 := ⟨k_588, k_1, by decide +kernel, by decide +kernel, by decide +kernel, by decide⟩
theorem lL_95 : mm_LV RL 95 hX9_judge 2 := ⟨ln_X9_judge, k_585, k_586, k_587⟩
theorem ln_X10_judge : mm_Ln hX10_judge 2 := ⟨k_1048, k_12, by decide +kernel, by decide +kernel, by decide +kernel, by decide⟩
theorem lL_98 : mm_LV RL 98 hX10_judge 2 := ⟨ln_X10_judge, k_1045, k_1046, k_1047⟩
theorem ln_X9_share : mm_Ln hX9_share 2 := ⟨k_605, k_1, by decide +kernel, by decide +kernel, by decide +kernel, by decide⟩
theorem lL_99 : mm_LV RL 99 hX9_share 2 := ⟨ln_X9_share, k_602, k_603, k_604⟩
theorem ln_X10_share : mm_Ln hX10_share 2 := ⟨k_1057, k_12, by decide +kernel, by decide +kernel, by decide +kernel, by decide⟩
theorem lL_102 : mm_LV RL 102 hX10_share 2 := ⟨ln_X10_share, k_1054, k_1055, k_1056⟩
theorem ln_X9_see : mm_Ln hX9_see 3 := ⟨k_621, k_1, by decide +kernel, by decide +kernel, by decide +kernel, by decide⟩
theorem lL_103 : mm_LV RL 103 hX9_see 3 := ⟨ln_X9_see, k_618, k_619, k_620⟩
theorem ln_X10_see : mm_Ln hX10_see 3 := ⟨k_1070, k_12, by decide +kernel, by decide +kernel, by decide +kernel, by decide⟩
theorem lL_106 : mm_LV RL 106 hX10_see 3 := ⟨ln_X10_see, k_1067, k_1068, k_1069⟩
theorem ln_X9_unsee : mm_Ln hX9_unsee 0 := ⟨k_629, k_1, by decide +kernel, by decide +kernel, by decide +kernel, by decide⟩
theorem lL_107 : mm_LV RL 107 hX9_unsee 0 := ⟨ln_X9_unsee, k_626, k_627, k_628⟩
theorem ln_X10_unsee : mm_Ln hX10_unsee 0 := ⟨k_1075, k_12, by decide +kernel, by decide +kernel, by decide +kernel, by decide⟩
theorem lL_110 : mm_LV RL 110 hX10_unsee 0 := ⟨ln_X10_unsee, k_1072, k_1073, k_1074⟩
theorem ln_X9_holds : mm_Ln hX9_holds 1 := ⟨k_633, k_1, by decide +kernel, by decide +kernel, by decide +kernel, by decide⟩
theorem lL_111 : mm_LV RL 111 hX9_holds 1 := ⟨ln_X9_holds, k_630, k_631, k_632⟩
theorem ln_X10_holds : mm_Ln hX10_holds 1 := ⟨k_1079, k_12, by decide +kernel, by decide +kernel, by decide +kernel, by decide⟩
theorem lL_114 : mm_LV RL 114 hX10_holds 1 := ⟨ln_X10_holds, k_1076, k_1077, k_1078⟩
theorem ln_X9_rests : mm_Ln hX9_rests 1 := ⟨k_645, k_1, by decide +kernel, by decide +kernel, by decide +kernel, by decide⟩
theorem lL_115 : mm_LV RL 115 hX9_rests 1 := ⟨ln_X9_rests, k_642, k_643, k_644⟩
theorem ln_X10_rests : mm_Ln hX10_rests 1 := ⟨k_1083, k_12, by decide +kernel, by decide +kernel, by decide +kernel, by decide⟩
theorem lL_118 : mm_LV RL 118 hX10_rests 1 := ⟨ln_X10_rests, k_1080, k_1081, k_1082⟩
theorem ln_X9_odds : mm_Ln hX9_odds 6 := ⟨k_670, k_1, by decide +kernel, by decide +kernel, by decide +kernel, by decide⟩
theorem lL_119 : mm_LV RL 119 hX9_odds 6 := ⟨ln_X9_odds, k_667, k_668, k_669⟩
theorem ln_X10_odds : mm_Ln hX10_odds 6 := ⟨k_1095, k_12, by decide +kernel, by decide +kernel, by decide +kernel, by decide⟩
theorem lL_123 : mm_LV RL 123 hX10_odds 6 := ⟨ln_X10_odds, k_1092, k_1093, k_1094⟩
theorem ln_X9_seed : mm_Ln hX9_seed 1 := ⟨k_687, k_1, by decide +kernel, by decide +kernel, by decide +kernel, by decide⟩
theorem lL_126 : mm_LV RL 126 hX9_seed 1 := ⟨ln_X9_seed, k_684, k_685, k_686⟩
theorem ln_X10_seed : mm_Ln hX10_seed 1 := ⟨k_1100, k_12, by decide +kernel, by decide +kernel, by decide +kernel, by decide⟩
theorem lL_130 : mm_LV RL 130 hX10_seed 1 := ⟨ln_X10_seed, k_1097, k_1098, k_1099⟩
theorem ln_X9_fairs : mm_Ln hX9_fairs 1 := ⟨k_691, k_1, by decide +kernel, by decide +kernel, by decide +kernel, by decide⟩
theorem lL_131 : mm_LV RL 131 hX9_fairs 1 := ⟨ln_X9_fairs, k_688, k_689, k_690⟩
theorem ln_X10_fairs : mm_Ln hX10_fairs 1 := ⟨k_1104, k_12, by decide +kernel, by decide +kernel, by decide +kernel, by decide⟩
theorem lL_134 : mm_LV RL 134 hX10_fairs 1 := ⟨ln_X10_fairs, k_1101, k_1102, k_1103⟩
theorem ln_X9_keep : mm_Ln hX9_keep 1 := ⟨k_708, k_1, by decide +kernel, by decide +kernel, by decide +kernel, by decide⟩
theorem lL_135 : mm_LV RL 135 hX9_keep 1 := ⟨ln_X9_keep, k_705, k_706, k_707⟩
theorem ln_X10_keep : mm_Ln hX10_keep 1 := ⟨k_1112, k_12, by decide +kernel, by decide +kernel, by decide +kernel, by decide⟩
theorem lL_138 : mm_LV RL 138 hX10_keep 1 := ⟨ln_X10_keep, k_1109, k_1110, k_1111⟩
theorem ln_X9_again : mm_Ln hX9_again 1 := ⟨k_718, k_1, by decide +kernel, by decide +kernel, by decide +kernel, by decide⟩
theorem lL_139 : mm_LV RL 139 hX9_again 1 := ⟨ln_X9_again, k_715, k_716, k_717⟩
theorem ln_X10_again : mm_Ln hX10_again 1 := ⟨k_1116, k_12, by decide +kernel, by decide +kernel, by decide +kernel, by decide⟩
theorem lL_142 : mm_LV RL 142 hX10_again 1 := ⟨ln_X10_again, k_1113, k_1114, k_1115⟩
theorem ln_X10_in : mm_Ln hX10_in 3 := ⟨k_860, k_12, by decide +kernel, by decide +kernel, by decide +kernel, by decide⟩
theorem lX10_78 : mm_LS RX10 78 hX10_in 3 := ⟨ln_X10_in, k_858, k_859⟩
theorem ln_X10_readPlace : mm_Ln hX10_readPlace 0 := ⟨k_888, k_12, by decide +kernel, by decide +kernel, by decide +kernel, by decide⟩
theorem lX10_98 : mm_LV RX10 98 hX10_readPlace 0 := ⟨ln_X10_readPlace, k_885, k_887, ks_17⟩
theorem ln_X10_figure : mm_Ln hX10_figure 2 := ⟨k_876, k_12, by decide +kernel, by decide +kernel, by decide +kernel, by decide⟩
theorem lX10_102 : mm_LV RX10 102 hX10_figure 2 := ⟨ln_X10_figure, k_873, k_875, ks_14⟩
theorem ln_X10_readOneHusk : mm_Ln hX10_readOneHusk 0 := ⟨k_884, k_12, by decide +kernel, by decide +kernel, by decide +kernel, by decide⟩
theorem lX10_112 : mm_LV RX10 112 hX10_readOneHusk 0 := ⟨ln_X10_readOneHusk, k_881, k_883, ks_16⟩
theorem ln_X10_readOneThrower : mm_Ln hX10_readOneThrower 0 := ⟨k_893, k_12, by decide +kernel, by decide +kernel, by decide +kernel, by decide⟩
theorem lX10_116 : mm_LV RX10 116 hX10_readOneThrower 0 := ⟨ln_X10_readOneThrower, k_890, k_892, ks_18⟩
theorem ln_X10_readOneLaw : mm_Ln hX10_readOneLaw 0 := ⟨k_897, k_12, by decide +kernel, by decide +kernel, by decide +kernel, by decide⟩
theorem lX10_119 : mm_LV RX10 119 hX10_readOneLaw 0 := ⟨ln_X10_readOneLaw, k_894, k_896, ks_19⟩
theorem ln_X10_readPart : mm_Ln hX10_readPart 0 := ⟨k_880, k_12, by decide +kernel, by decide +kernel, by decide +kernel, by decide⟩
theorem lX10_128 : mm_LV RX10 128 hX10_readPart 0 := ⟨ln_X10_readPart, k_877, k_879, ks_15⟩
theorem ln_X10_readFair : mm_Ln hX10_readFair 0 := ⟨k_872, k_12, by decide +kernel, by decide +kernel, by decide +kernel, by decide⟩
theorem lX10_131 : mm_LV RX10 131 hX10_readFair 0 := ⟨ln_X10_readFair, k_869, k_871, ks_13⟩
theorem ln_X10_copyRow : mm_Ln hX10_copyRow 3 := ⟨k_904, k_12, by decide +kernel, by decide +kernel, by decide +kernel, by decide⟩
theorem lX10_137 : mm_LS RX10 137 hX10_copyRow 3 := ⟨ln_X10_copyRow, k_902, k_903⟩
theorem ln_X10_has : mm_Ln hX10_has 2 := ⟨k_923, k_12, by decide +kernel, by decide +kernel, by decide +kernel, by decide⟩
theorem lX10_144 : mm_LS RX10 144 hX10_has 2 := ⟨ln_X10_has, k_921, k_922⟩
theorem ln_X10_blows : mm_Ln hX10_blows 2 := ⟨k_952, k_12, by decide +kernel, by decide +kernel, by decide +kernel, by decide⟩
theorem lX10_148 : mm_LV RX10 148 hX10_blows 2 := ⟨ln_X10_blows, k_949, k_951, ks_26⟩
theorem ln_X10_stand : mm_Ln hX10_stand 2 := ⟨k_975, k_12, by decide +kernel, by decide +kernel, by decide +kernel, by decide⟩
theorem lX10_155 : mm_LS RX10 155 hX10_stand 2 := ⟨ln_X10_stand, k_973, k_974⟩
theorem ln_X10_landing : mm_Ln hX10_landing 4 := ⟨k_948, k_12, by decide +kernel, by decide +kernel, by decide +kernel, by decide⟩
theorem lX10_159 : mm_LV RX10 159 hX10_landing 4 := ⟨ln_X10_landing, k_945, k_947, ks_25⟩
theorem ln_X10_huskAt : mm_Ln hX10_huskAt 1 := ⟨k_968, k_12, by decide +kernel, by decide +kernel, by decide +kernel, by decide⟩
theorem lX10_163 : mm_LV RX10 163 hX10_huskAt 1 := ⟨ln_X10_huskAt, k_965, k_967, ks_29⟩
theorem ln_X10_force : mm_Ln hX10_force 1 := ⟨k_936, k_12, by decide +kernel, by decide +kernel, by decide +kernel, by decide⟩
theorem lX10_167 : mm_LV RX10 167 hX10_force 1 := ⟨ln_X10_force, k_933, k_935, ks_23⟩
theorem ln_X10_firm : mm_Ln hX10_firm 2 := ⟨k_920, k_12, by decide +kernel, by decide +kernel, by decide +kernel, by decide⟩
theorem lX10_170 : mm_LV RX10 170 hX10_firm 2 := ⟨ln_X10_firm, k_917, k_919, ks_21⟩
theorem ln_X10_fall : mm_Ln hX10_fall 2 := ⟨k_972, k_12, by decide +kernel, by decide +kernel, by decide +kernel, by decide⟩
theorem lX10_173 : mm_LV RX10 173 hX10_fall 2 := ⟨ln_X10_fall, k_969, k_971, ks_30⟩
theorem ln_X10_noHusk : mm_Ln hX10_noHusk 1 := ⟨k_916, k_12, by decide +kernel, by decide +kernel, by decide +kernel, by decide⟩
theorem lX10_179 : mm_LV RX10 179 hX10_noHusk 1 := ⟨ln_X10_noHusk, k_913, k_915, ks_20⟩
theorem ln_X10_noThrower : mm_Ln hX10_noThrower 1 := ⟨k_931, k_12, by decide +kernel, by decide +kernel, by decide +kernel, by decide⟩
theorem lX10_183 : mm_LV RX10 183 hX10_noThrower 1 := ⟨ln_X10_noThrower, k_928, k_930, ks_22⟩
theorem ln_X10_noThrow : mm_Ln hX10_noThrow 3 := ⟨k_944, k_12, by decide +kernel, by decide +kernel, by decide +kernel, by decide⟩
theorem lX10_188 : mm_LV RX10 188 hX10_noThrow 3 := ⟨ln_X10_noThrow, k_941, k_943, ks_24⟩
theorem ln_X10_note : mm_Ln hX10_note 0 := ⟨k_960, k_12, by decide +kernel, by decide +kernel, by decide +kernel, by decide⟩
theorem lX10_192 : mm_LV RX10 192 hX10_note 0 := ⟨ln_X10_note, k_957, k_959, ks_27⟩
theorem ln_X10_goThrow : mm_Ln hX10_goThrow 4 := ⟨k_964, k_12, by decide +kernel, by decide +kernel, by decide +kernel, by decide⟩
theorem lX10_195 : mm_LV RX10 195 hX10_goThrow 4 := ⟨ln_X10_goThrow, k_961, k_963, ks_28⟩
theorem ln_X10_paidMore : mm_Ln hX10_paidMore 1 := ⟨k_990, k_12, by decide +kernel, by decide +kernel, by decide +kernel, by decide⟩
theorem lX10_199 : mm_LS RX10 199 hX10_paidMore 1 := ⟨ln_X10_paidMore, k_988, k_989⟩
theorem ln_X10_placeAt : mm_Ln hX10_placeAt 3 := ⟨k_1021, k_12, by decide +kernel, by decide +kernel, by decide +kernel, by decide⟩
theorem lX10_202 : mm_LV RX10 202 hX10_placeAt 3 := ⟨ln_X10_placeAt, k_1018, k_1020, ks_33⟩
theorem ln_X10_power : mm_Ln hX10_power 2 := ⟨k_1013, k_12, by decide +kernel, by decide +kernel, by decide +kernel, by decide⟩
theorem lX10_212 : mm_LS RX10 212 hX10_power 2 := ⟨ln_X10_power, k_1011, k_1012⟩
theorem ln_X10_throwsAt : mm_Ln hX10_throwsAt 2 := ⟨k_1017, k_12, by decide +kernel, by decide +kernel, by decide +kernel, by decide⟩
theorem lX10_215 : mm_LV RX10 215 hX10_throwsAt 2 := ⟨ln_X10_throwsAt, k_1014, k_1016, ks_32⟩
theorem ln_X10_findFewest : mm_Ln hX10_findFewest 1 := ⟨k_1010, k_12, by decide +kernel, by decide +kernel, by decide +kernel, by decide⟩
theorem lX10_218 : mm_LV RX10 218 hX10_findFewest 1 := ⟨ln_X10_findFewest, k_1007, k_1009, ks_31⟩
theorem ln_X10_many : mm_Ln hX10_many 1 := ⟨k_1036, k_12, by decide +kernel, by decide +kernel, by decide +kernel, by decide⟩
theorem lX10_228 : mm_LS RX10 228 hX10_many 1 := ⟨ln_X10_many, k_1034, k_1035⟩
theorem ln_X10_findMatch : mm_Ln hX10_findMatch 1 := ⟨k_1033, k_12, by decide +kernel, by decide +kernel, by decide +kernel, by decide⟩
theorem lX10_231 : mm_LV RX10 231 hX10_findMatch 1 := ⟨ln_X10_findMatch, k_1030, k_1032, ks_34⟩
theorem ln_X10_holdsUp : mm_Ln hX10_holdsUp 1 := ⟨k_1044, k_12, by decide +kernel, by decide +kernel, by decide +kernel, by decide⟩
theorem lX10_234 : mm_LV RX10 234 hX10_holdsUp 1 := ⟨ln_X10_holdsUp, k_1041, k_1043, ks_35⟩
theorem ln_X10_does : mm_Ln hX10_does 1 := ⟨k_1053, k_12, by decide +kernel, by decide +kernel, by decide +kernel, by decide⟩
theorem lX10_239 : mm_LV RX10 239 hX10_does 1 := ⟨ln_X10_does, k_1050, k_1052, ks_36⟩
theorem ln_X10_divisor : mm_Ln hX10_divisor 2 := ⟨k_1066, k_12, by decide +kernel, by decide +kernel, by decide +kernel, by decide⟩
theorem lX10_242 : mm_LS RX10 242 hX10_divisor 2 := ⟨ln_X10_divisor, k_1064, k_1065⟩
theorem ln_X10_ways : mm_Ln hX10_ways 1 := ⟨k_1060, k_12, by decide +kernel, by decide +kernel, by decide +kernel, by decide⟩
theorem lX10_245 : mm_LS RX10 245 hX10_ways 1 := ⟨ln_X10_ways, k_1058, k_1059⟩
theorem ln_X10_fraction : mm_Ln hX10_fraction 3 := ⟨k_1063, k_12, by decide +kernel, by decide +kernel, by decide +kernel, by decide⟩
theorem lX10_248 : mm_LS RX10 248 hX10_fraction 3 := ⟨ln_X10_fraction, k_1061, k_1062⟩
theorem ln_X10_layWorth : mm_Ln hX10_layWorth 2 := ⟨k_1091, k_12, by decide +kernel, by decide +kernel, by decide +kernel, by decide⟩
theorem lX10_254 : mm_LV RX10 254 hX10_layWorth 2 := ⟨ln_X10_layWorth, k_1088, k_1090, ks_38⟩
theorem ln_X10_findRests : mm_Ln hX10_findRests 0 := ⟨k_1087, k_12, by decide +kernel, by decide +kernel, by decide +kernel, by decide⟩
theorem lX10_264 : mm_LV RX10 264 hX10_findRests 0 := ⟨ln_X10_findRests, k_1084, k_1086, ks_37⟩
