/-! ===== methods, and how they are linked ===== -/
abbrev zM_X7_init : zM := (yX7_init, cX7_init, 2, none)
theorem mk_X7_init : zMk zM_X7_init 0 := ⟨⟨by decide +kernel, by decide +kernel⟩, by decide +kernel, by decide, wd_22, wd_1⟩
abbrev zM_X5_init : zM := (yX5_init, cX5_init, 1, none)
theorem mk_X5_init : zMk zM_X5_init 0 := ⟨⟨by decide +kernel, by decide +kernel⟩, by decide +kernel, by decide, wd_32, wd_2⟩
abbrev zM_X3_init : zM := (yX3_init, cX3_init, 2, none)
theorem mk_X3_init : zMk zM_X3_init 0 := ⟨⟨by decide +kernel, by decide +kernel⟩, by decide +kernel, by decide, wd_67, wd_3⟩
abbrev zM_X6_init : zM := (yX6_init, cX6_init, 1, none)
theorem mk_X6_init : zMk zM_X6_init 0 := ⟨⟨by decide +kernel, by decide +kernel⟩, by decide +kernel, by decide, wd_76, wd_4⟩
abbrev zM_X4_init : zM := (yX4_init, cX4_init, 1, none)
theorem mk_X4_init : zMk zM_X4_init 0 := ⟨⟨by decide +kernel, by decide +kernel⟩, by decide +kernel, by decide, wd_106, wd_5⟩
abbrev zM_X0_init : zM := (yX0_init, cX0_init, 2, none)
theorem mk_X0_init : zMk zM_X0_init 0 := ⟨⟨by decide +kernel, by decide +kernel⟩, by decide +kernel, by decide, wd_181, wd_6⟩
abbrev zM_X2_init : zM := (yX2_init, cX2_init, 1, none)
theorem mk_X2_init : zMk zM_X2_init 0 := ⟨⟨by decide +kernel, by decide +kernel⟩, by decide +kernel, by decide, wd_201, wd_7⟩
abbrev zM_X1_init : zM := (yX1_init, cX1_init, 1, none)
theorem mk_X1_init : zMk zM_X1_init 0 := ⟨⟨by decide +kernel, by decide +kernel⟩, by decide +kernel, by decide, wd_212, wd_8⟩
abbrev zM_X7_row : zM := (yX7_row, cX7_row, 5, (Option.some Jvm.ClassFile.FieldType.int))
theorem mk_X7_row : zMk zM_X7_row 3 := ⟨⟨by decide +kernel, by decide +kernel⟩, by decide +kernel, by decide, wd_272, wd_1⟩
abbrev zM_X7_isNoRow : zM := (yX7_isNoRow, cX7_isNoRow, 1, (Option.some Jvm.ClassFile.FieldType.boolean))
theorem mk_X7_isNoRow : zMk zM_X7_isNoRow 1 := ⟨⟨by decide +kernel, by decide +kernel⟩, by decide +kernel, by decide, wd_275, wd_1⟩
abbrev zM_X7_isOutside : zM := (yX7_isOutside, cX7_isOutside, 3, (Option.some Jvm.ClassFile.FieldType.boolean))
theorem mk_X7_isOutside : zMk zM_X7_isOutside 3 := ⟨⟨by decide +kernel, by decide +kernel⟩, by decide +kernel, by decide, wd_278, wd_1⟩
abbrev zM_X7_found : zM := (yX7_found, cX7_found, 2, (Option.some Jvm.ClassFile.FieldType.int))
theorem mk_X7_found : zMk zM_X7_found 1 := ⟨⟨by decide +kernel, by decide +kernel⟩, by decide +kernel, by decide, wd_283, wd_1⟩
abbrev zM_X7_foundNothing : zM := (yX7_foundNothing, cX7_foundNothing, 2, (Option.some Jvm.ClassFile.FieldType.int))
theorem mk_X7_foundNothing : zMk zM_X7_foundNothing 1 := ⟨⟨by decide +kernel, by decide +kernel⟩, by decide +kernel, by decide, wd_288, wd_1⟩
abbrev zM_X7_set : zM := (yX7_set, cX7_set, 4, (Option.some Jvm.ClassFile.FieldType.int))
theorem mk_X7_set : zMk zM_X7_set 3 := ⟨⟨by decide +kernel, by decide +kernel⟩, by decide +kernel, by decide, wd_292, wd_1⟩
abbrev zM_X7_isMissing : zM := (yX7_isMissing, cX7_isMissing, 2, (Option.some Jvm.ClassFile.FieldType.boolean))
theorem mk_X7_isMissing : zMk zM_X7_isMissing 1 := ⟨⟨by decide +kernel, by decide +kernel⟩, by decide +kernel, by decide, wd_296, wd_1⟩
abbrev zM_X7_isBeyond : zM := (yX7_isBeyond, cX7_isBeyond, 4, (Option.some Jvm.ClassFile.FieldType.boolean))
theorem mk_X7_isBeyond : zMk zM_X7_isBeyond 3 := ⟨⟨by decide +kernel, by decide +kernel⟩, by decide +kernel, by decide, wd_300, wd_1⟩
abbrev zM_X7_lowestBits : zM := (yX7_lowestBits, cX7_lowestBits, 2, (Option.some Jvm.ClassFile.FieldType.int))
theorem mk_X7_lowestBits : zMk zM_X7_lowestBits 2 := ⟨⟨by decide +kernel, by decide +kernel⟩, by decide +kernel, by decide, wd_303, wd_1⟩
abbrev zM_X7_copy : zM := (yX7_copy, cX7_copy, 6, (Option.some Jvm.ClassFile.FieldType.int))
theorem mk_X7_copy : zMk zM_X7_copy 5 := ⟨⟨by decide +kernel, by decide +kernel⟩, by decide +kernel, by decide, wd_307, wd_1⟩
abbrev zM_X7_drop : zM := (yX7_drop, cX7_drop, 3, (Option.some Jvm.ClassFile.FieldType.int))
theorem mk_X7_drop : zMk zM_X7_drop 1 := ⟨⟨by decide +kernel, by decide +kernel⟩, by decide +kernel, by decide, wd_314, wd_1⟩
abbrev zM_X7_feed : zM := (yX7_feed, cX7_feed, 4, (Option.some Jvm.ClassFile.FieldType.int))
theorem mk_X7_feed : zMk zM_X7_feed 2 := ⟨⟨by decide +kernel, by decide +kernel⟩, by decide +kernel, by decide, wd_318, wd_1⟩
abbrev zM_X5_append : zM := (yX5_append, cX5_append, 5, none)
theorem mk_X5_append : zMk zM_X5_append 2 := ⟨⟨by decide +kernel, by decide +kernel⟩, by decide +kernel, by decide, wd_323, wd_2⟩
abbrev zM_X7_league : zM := (yX7_league, cX7_league, 1, (Option.some Jvm.ClassFile.FieldType.int))
theorem mk_X7_league : zMk zM_X7_league 0 := ⟨⟨by decide +kernel, by decide +kernel⟩, by decide +kernel, by decide, wd_328, wd_1⟩
abbrev zM_X5_readLeague : zM := (yX5_readLeague, cX5_readLeague, 3, none)
theorem mk_X5_readLeague : zMk zM_X5_readLeague 1 := ⟨⟨by decide +kernel, by decide +kernel⟩, by decide +kernel, by decide, wd_332, wd_2⟩
abbrev zM_X5_nextToken : zM := (yX5_nextToken, cX5_nextToken, 1, none)
theorem mk_X5_nextToken : zMk zM_X5_nextToken 0 := ⟨⟨by decide +kernel, by decide +kernel⟩, by decide +kernel, by decide, wd_336, wd_2⟩
abbrev zM_X5_isBetween : zM := (yX5_isBetween, cX5_isBetween, 3, (Option.some Jvm.ClassFile.FieldType.boolean))
theorem mk_X5_isBetween : zMk zM_X5_isBetween 2 := ⟨⟨by decide +kernel, by decide +kernel⟩, by decide +kernel, by decide, wd_340, wd_2⟩
abbrev zM_X5_passRun : zM := (yX5_passRun, cX5_passRun, 3, none)
theorem mk_X5_passRun : zMk zM_X5_passRun 2 := ⟨⟨by decide +kernel, by decide +kernel⟩, by decide +kernel, by decide, wd_344, wd_2⟩
abbrev zM_X5_readNumber : zM := (yX5_readNumber, cX5_readNumber, 2, none)
theorem mk_X5_readNumber : zMk zM_X5_readNumber 0 := ⟨⟨by decide +kernel, by decide +kernel⟩, by decide +kernel, by decide, wd_348, wd_2⟩
abbrev zM_X5_takeWord : zM := (yX5_takeWord, cX5_takeWord, 2, none)
theorem mk_X5_takeWord : zMk zM_X5_takeWord 1 := ⟨⟨by decide +kernel, by decide +kernel⟩, by decide +kernel, by decide, wd_353, wd_2⟩
abbrev zM_X5_isWord : zM := (yX5_isWord, cX5_isWord, 3, (Option.some Jvm.ClassFile.FieldType.boolean))
theorem mk_X5_isWord : zMk zM_X5_isWord 1 := ⟨⟨by decide +kernel, by decide +kernel⟩, by decide +kernel, by decide, wd_357, wd_2⟩
abbrev zM_J0_length_8abf5 : zM := (yJ0_length_8abf5, cJ0_length_8abf5, 1, (Option.some Jvm.ClassFile.FieldType.int))
theorem mk_J0_length_8abf5 : zMk zM_J0_length_8abf5 0 := ⟨⟨by decide +kernel, by decide +kernel⟩, by decide +kernel, by decide, wd_361, wd_11⟩
abbrev zM_J0_coder_7d493 : zM := (yJ0_coder_7d493, cJ0_coder_7d493, 1, (Option.some Jvm.ClassFile.FieldType.byte))
theorem mk_J0_coder_7d493 : zMk zM_J0_coder_7d493 0 := ⟨⟨by decide +kernel, by decide +kernel⟩, by decide +kernel, by decide, wd_365, wd_11⟩
abbrev zM_J0_charAt_5068e : zM := (yJ0_charAt_5068e, cJ0_charAt_5068e, 2, (Option.some Jvm.ClassFile.FieldType.char))
theorem mk_J0_charAt_5068e : zMk zM_J0_charAt_5068e 1 := ⟨⟨by decide +kernel, by decide +kernel⟩, by decide +kernel, by decide, wd_371, wd_11⟩
abbrev zM_J0_isLatin1_aae02 : zM := (yJ0_isLatin1_aae02, cJ0_isLatin1_aae02, 1, (Option.some Jvm.ClassFile.FieldType.boolean))
theorem mk_J0_isLatin1_aae02 : zMk zM_J0_isLatin1_aae02 0 := ⟨⟨by decide +kernel, by decide +kernel⟩, by decide +kernel, by decide, wd_375, wd_11⟩
abbrev zM_J1_charAt_3b067 : zM := (yJ1_charAt_3b067, cJ1_charAt_3b067, 2, (Option.some Jvm.ClassFile.FieldType.char))
theorem mk_J1_charAt_3b067 : zMk zM_J1_charAt_3b067 2 := ⟨⟨by decide +kernel, by decide +kernel⟩, by decide +kernel, by decide, wd_378, wd_12⟩
abbrev zM_J0_checkIndex_df160 : zM := (yJ0_checkIndex_df160, cJ0_checkIndex_df160, 2, none)
theorem mk_J0_checkIndex_df160 : zMk zM_J0_checkIndex_df160 2 := ⟨⟨by decide +kernel, by decide +kernel⟩, by decide +kernel, by decide, wd_381, wd_11⟩
abbrev zM_J3_checkIndex_8e157 : zM := (yJ3_checkIndex_8e157, cJ3_checkIndex_8e157, 3, (Option.some Jvm.ClassFile.FieldType.int))
theorem mk_J3_checkIndex_8e157 : zMk zM_J3_checkIndex_8e157 3 := ⟨⟨by decide +kernel, by decide +kernel⟩, by decide +kernel, by decide, wd_386, wd_13⟩
abbrev zM_J2_charAt_3b067 : zM := (yJ2_charAt_3b067, cJ2_charAt_3b067, 2, (Option.some Jvm.ClassFile.FieldType.char))
theorem mk_J2_charAt_3b067 : zMk zM_J2_charAt_3b067 2 := ⟨⟨by decide +kernel, by decide +kernel⟩, by decide +kernel, by decide, wd_389, wd_14⟩
abbrev zM_J2_checkIndex_2214a : zM := (yJ2_checkIndex_2214a, cJ2_checkIndex_2214a, 2, none)
theorem mk_J2_checkIndex_2214a : zMk zM_J2_checkIndex_2214a 2 := ⟨⟨by decide +kernel, by decide +kernel⟩, by decide +kernel, by decide, wd_392, wd_14⟩
abbrev zM_J2_length_9d52b : zM := (yJ2_length_9d52b, cJ2_length_9d52b, 1, (Option.some Jvm.ClassFile.FieldType.int))
theorem mk_J2_length_9d52b : zMk zM_J2_length_9d52b 1 := ⟨⟨by decide +kernel, by decide +kernel⟩, by decide +kernel, by decide, wd_395, wd_14⟩
abbrev zM_J2_getChar_3b067 : zM := (yJ2_getChar_3b067, cJ2_getChar_3b067, 2, (Option.some Jvm.ClassFile.FieldType.char))
theorem mk_J2_getChar_3b067 : zMk zM_J2_getChar_3b067 2 := ⟨⟨by decide +kernel, by decide +kernel⟩, by decide +kernel, by decide, wd_399, wd_14⟩
abbrev zM_X5_fail : zM := (yX5_fail, cX5_fail, 2, none)
theorem mk_X5_fail : zMk zM_X5_fail 1 := ⟨⟨by decide +kernel, by decide +kernel⟩, by decide +kernel, by decide, wd_409, wd_2⟩
abbrev zM_X5_takeNumber : zM := (yX5_takeNumber, cX5_takeNumber, 5, (Option.some Jvm.ClassFile.FieldType.int))
theorem mk_X5_takeNumber : zMk zM_X5_takeNumber 3 := ⟨⟨by decide +kernel, by decide +kernel⟩, by decide +kernel, by decide, wd_414, wd_2⟩
abbrev zM_X5_takeSign : zM := (yX5_takeSign, cX5_takeSign, 1, none)
theorem mk_X5_takeSign : zMk zM_X5_takeSign 0 := ⟨⟨by decide +kernel, by decide +kernel⟩, by decide +kernel, by decide, wd_419, wd_2⟩
abbrev zM_X5_readWay : zM := (yX5_readWay, cX5_readWay, 3, none)
theorem mk_X5_readWay : zMk zM_X5_readWay 1 := ⟨⟨by decide +kernel, by decide +kernel⟩, by decide +kernel, by decide, wd_424, wd_2⟩
abbrev zM_X5_readPerson : zM := (yX5_readPerson, cX5_readPerson, 5, none)
theorem mk_X5_readPerson : zMk zM_X5_readPerson 1 := ⟨⟨by decide +kernel, by decide +kernel⟩, by decide +kernel, by decide, wd_429, wd_2⟩
abbrev zM_X5_takeSort : zM := (yX5_takeSort, cX5_takeSort, 2, (Option.some Jvm.ClassFile.FieldType.int))
theorem mk_X5_takeSort : zMk zM_X5_takeSort 0 := ⟨⟨by decide +kernel, by decide +kernel⟩, by decide +kernel, by decide, wd_433, wd_2⟩
abbrev zM_X5_sortWord : zM := (yX5_sortWord, cX5_sortWord, 1, (Option.some (Jvm.ClassFile.FieldType.object "java/lang/String")))
theorem mk_X5_sortWord : zMk zM_X5_sortWord 1 := ⟨⟨by decide +kernel, by decide +kernel⟩, by decide +kernel, by decide, wd_436, wd_2⟩
abbrev zM_X4_beginsAs : zM := (yX4_beginsAs, cX4_beginsAs, 4, none)
theorem mk_X4_beginsAs : zMk zM_X4_beginsAs 3 := ⟨⟨by decide +kernel, by decide +kernel⟩, by decide +kernel, by decide, wd_445, wd_5⟩
abbrev zM_X3_standsAs : zM := (yX3_standsAs, cX3_standsAs, 3, none)
theorem mk_X3_standsAs : zMk zM_X3_standsAs 1 := ⟨⟨by decide +kernel, by decide +kernel⟩, by decide +kernel, by decide, wd_450, wd_3⟩
abbrev zM_X6_becomes : zM := (yX6_becomes, cX6_becomes, 2, none)
theorem mk_X6_becomes : zMk zM_X6_becomes 1 := ⟨⟨by decide +kernel, by decide +kernel⟩, by decide +kernel, by decide, wd_454, wd_4⟩
abbrev zM_X4_becomes : zM := (yX4_becomes, cX4_becomes, 2, none)
theorem mk_X4_becomes : zMk zM_X4_becomes 1 := ⟨⟨by decide +kernel, by decide +kernel⟩, by decide +kernel, by decide, wd_458, wd_5⟩
abbrev zM_X0_forget : zM := (yX0_forget, cX0_forget, 1, none)
theorem mk_X0_forget : zMk zM_X0_forget 0 := ⟨⟨by decide +kernel, by decide +kernel⟩, by decide +kernel, by decide, wd_462, wd_6⟩
abbrev zM_X7_fault : zM := (yX7_fault, cX7_fault, 1, (Option.some Jvm.ClassFile.FieldType.int))
theorem mk_X7_fault : zMk zM_X7_fault 0 := ⟨⟨by decide +kernel, by decide +kernel⟩, by decide +kernel, by decide, wd_467, wd_1⟩
abbrev zM_X7_sail : zM := (yX7_sail, cX7_sail, 4, (Option.some Jvm.ClassFile.FieldType.int))
theorem mk_X7_sail : zMk zM_X7_sail 2 := ⟨⟨by decide +kernel, by decide +kernel⟩, by decide +kernel, by decide, wd_471, wd_1⟩
abbrev zM_X7_isNobody : zM := (yX7_isNobody, cX7_isNobody, 2, (Option.some Jvm.ClassFile.FieldType.boolean))
theorem mk_X7_isNobody : zMk zM_X7_isNobody 1 := ⟨⟨by decide +kernel, by decide +kernel⟩, by decide +kernel, by decide, wd_475, wd_1⟩
abbrev zM_X7_isNoWay : zM := (yX7_isNoWay, cX7_isNoWay, 2, (Option.some Jvm.ClassFile.FieldType.boolean))
theorem mk_X7_isNoWay : zMk zM_X7_isNoWay 1 := ⟨⟨by decide +kernel, by decide +kernel⟩, by decide +kernel, by decide, wd_479, wd_1⟩
abbrev zM_X7_sailOnce : zM := (yX7_sailOnce, cX7_sailOnce, 5, (Option.some Jvm.ClassFile.FieldType.int))
theorem mk_X7_sailOnce : zMk zM_X7_sailOnce 2 := ⟨⟨by decide +kernel, by decide +kernel⟩, by decide +kernel, by decide, wd_483, wd_1⟩
abbrev zM_X6_endsIn : zM := (yX6_endsIn, cX6_endsIn, 2, (Option.some Jvm.ClassFile.FieldType.boolean))
theorem mk_X6_endsIn : zMk zM_X6_endsIn 1 := ⟨⟨by decide +kernel, by decide +kernel⟩, by decide +kernel, by decide, wd_487, wd_4⟩
abbrev zM_X4_maySail : zM := (yX4_maySail, cX4_maySail, 2, (Option.some Jvm.ClassFile.FieldType.boolean))
theorem mk_X4_maySail : zMk zM_X4_maySail 1 := ⟨⟨by decide +kernel, by decide +kernel⟩, by decide +kernel, by decide, wd_491, wd_5⟩
abbrev zM_X0_keep : zM := (yX0_keep, cX0_keep, 4, none)
theorem mk_X0_keep : zMk zM_X0_keep 1 := ⟨⟨by decide +kernel, by decide +kernel⟩, by decide +kernel, by decide, wd_496, wd_6⟩
abbrev zM_X0_placeBehindLatest : zM := (yX0_placeBehindLatest, cX0_placeBehindLatest, 1, (Option.some Jvm.ClassFile.FieldType.int))
theorem mk_X0_placeBehindLatest : zMk zM_X0_placeBehindLatest 0 := ⟨⟨by decide +kernel, by decide +kernel⟩, by decide +kernel, by decide, wd_500, wd_6⟩
abbrev zM_X4_sailOn : zM := (yX4_sailOn, cX4_sailOn, 2, none)
theorem mk_X4_sailOn : zMk zM_X4_sailOn 1 := ⟨⟨by decide +kernel, by decide +kernel⟩, by decide +kernel, by decide, wd_505, wd_5⟩
abbrev zM_X6_otherEnd : zM := (yX6_otherEnd, cX6_otherEnd, 2, (Option.some Jvm.ClassFile.FieldType.int))
theorem mk_X6_otherEnd : zMk zM_X6_otherEnd 1 := ⟨⟨by decide +kernel, by decide +kernel⟩, by decide +kernel, by decide, wd_509, wd_4⟩
abbrev zM_X4_ownYears : zM := (yX4_ownYears, cX4_ownYears, 2, (Option.some Jvm.ClassFile.FieldType.int))
theorem mk_X4_ownYears : zMk zM_X4_ownYears 1 := ⟨⟨by decide +kernel, by decide +kernel⟩, by decide +kernel, by decide, wd_513, wd_5⟩
abbrev zM_J9_max_7cf53 : zM := (yJ9_max_7cf53, cJ9_max_7cf53, 2, (Option.some Jvm.ClassFile.FieldType.int))
theorem mk_J9_max_7cf53 : zMk zM_J9_max_7cf53 2 := ⟨⟨by decide +kernel, by decide +kernel⟩, by decide +kernel, by decide, wd_516, wd_15⟩
abbrev zM_X7_sails : zM := (yX7_sails, cX7_sails, 6, (Option.some Jvm.ClassFile.FieldType.int))
theorem mk_X7_sails : zMk zM_X7_sails 4 := ⟨⟨by decide +kernel, by decide +kernel⟩, by decide +kernel, by decide, wd_520, wd_1⟩
abbrev zM_X7_stay : zM := (yX7_stay, cX7_stay, 4, (Option.some Jvm.ClassFile.FieldType.int))
theorem mk_X7_stay : zMk zM_X7_stay 2 := ⟨⟨by decide +kernel, by decide +kernel⟩, by decide +kernel, by decide, wd_524, wd_1⟩
abbrev zM_X4_stayFor : zM := (yX4_stayFor, cX4_stayFor, 2, none)
theorem mk_X4_stayFor : zMk zM_X4_stayFor 1 := ⟨⟨by decide +kernel, by decide +kernel⟩, by decide +kernel, by decide, wd_528, wd_5⟩
abbrev zM_X7_meet : zM := (yX7_meet, cX7_meet, 6, (Option.some Jvm.ClassFile.FieldType.int))
theorem mk_X7_meet : zMk zM_X7_meet 2 := ⟨⟨by decide +kernel, by decide +kernel⟩, by decide +kernel, by decide, wd_532, wd_1⟩
abbrev zM_X7_borrow : zM := (yX7_borrow, cX7_borrow, 5, (Option.some Jvm.ClassFile.FieldType.int))
theorem mk_X7_borrow : zMk zM_X7_borrow 2 := ⟨⟨by decide +kernel, by decide +kernel⟩, by decide +kernel, by decide, wd_537, wd_1⟩
abbrev zM_X4_owedByShore : zM := (yX4_owedByShore, cX4_owedByShore, 2, (Option.some Jvm.ClassFile.FieldType.int))
theorem mk_X4_owedByShore : zMk zM_X4_owedByShore 1 := ⟨⟨by decide +kernel, by decide +kernel⟩, by decide +kernel, by decide, wd_541, wd_5⟩
abbrev zM_X4_grown : zM := (yX4_grown, cX4_grown, 6, (Option.some Jvm.ClassFile.FieldType.int))
theorem mk_X4_grown : zMk zM_X4_grown 3 := ⟨⟨by decide +kernel, by decide +kernel⟩, by decide +kernel, by decide, wd_544, wd_5⟩
abbrev zM_J9_min_f86c9 : zM := (yJ9_min_f86c9, cJ9_min_f86c9, 4, (Option.some Jvm.ClassFile.FieldType.long))
theorem mk_J9_min_f86c9 : zMk zM_J9_min_f86c9 2 := ⟨⟨by decide +kernel, by decide +kernel⟩, by decide +kernel, by decide, wd_549, wd_15⟩
abbrev zM_X4_takeLoan : zM := (yX4_takeLoan, cX4_takeLoan, 2, none)
theorem mk_X4_takeLoan : zMk zM_X4_takeLoan 1 := ⟨⟨by decide +kernel, by decide +kernel⟩, by decide +kernel, by decide, wd_553, wd_5⟩
abbrev zM_X7_undo : zM := (yX7_undo, cX7_undo, 1, (Option.some Jvm.ClassFile.FieldType.int))
theorem mk_X7_undo : zMk zM_X7_undo 0 := ⟨⟨by decide +kernel, by decide +kernel⟩, by decide +kernel, by decide, wd_557, wd_1⟩
abbrev zM_X0_takeBack : zM := (yX0_takeBack, cX0_takeBack, 4, none)
theorem mk_X0_takeBack : zMk zM_X0_takeBack 1 := ⟨⟨by decide +kernel, by decide +kernel⟩, by decide +kernel, by decide, wd_561, wd_6⟩
abbrev zM_X7_person : zM := (yX7_person, cX7_person, 4, (Option.some Jvm.ClassFile.FieldType.int))
theorem mk_X7_person : zMk zM_X7_person 2 := ⟨⟨by decide +kernel, by decide +kernel⟩, by decide +kernel, by decide, wd_565, wd_1⟩
abbrev zM_X4_lag : zM := (yX4_lag, cX4_lag, 1, (Option.some Jvm.ClassFile.FieldType.int))
theorem mk_X4_lag : zMk zM_X4_lag 0 := ⟨⟨by decide +kernel, by decide +kernel⟩, by decide +kernel, by decide, wd_569, wd_5⟩
abbrev zM_X4_owedByOwn : zM := (yX4_owedByOwn, cX4_owedByOwn, 2, (Option.some Jvm.ClassFile.FieldType.int))
theorem mk_X4_owedByOwn : zMk zM_X4_owedByOwn 1 := ⟨⟨by decide +kernel, by decide +kernel⟩, by decide +kernel, by decide, wd_573, wd_5⟩
abbrev zM_X7_gains : zM := (yX7_gains, cX7_gains, 7, (Option.some Jvm.ClassFile.FieldType.int))
theorem mk_X7_gains : zMk zM_X7_gains 4 := ⟨⟨by decide +kernel, by decide +kernel⟩, by decide +kernel, by decide, wd_577, wd_1⟩
abbrev zM_X7_isNoHarbour : zM := (yX7_isNoHarbour, cX7_isNoHarbour, 2, (Option.some Jvm.ClassFile.FieldType.boolean))
theorem mk_X7_isNoHarbour : zMk zM_X7_isNoHarbour 1 := ⟨⟨by decide +kernel, by decide +kernel⟩, by decide +kernel, by decide, wd_581, wd_1⟩
abbrev zM_X2_foresee : zM := (yX2_foresee, cX2_foresee, 5, none)
theorem mk_X2_foresee : zMk zM_X2_foresee 2 := ⟨⟨by decide +kernel, by decide +kernel⟩, by decide +kernel, by decide, wd_585, wd_7⟩
abbrev zM_X2_gainsAt : zM := (yX2_gainsAt, cX2_gainsAt, 3, (Option.some Jvm.ClassFile.FieldType.long))
theorem mk_X2_gainsAt : zMk zM_X2_gainsAt 2 := ⟨⟨by decide +kernel, by decide +kernel⟩, by decide +kernel, by decide, wd_589, wd_7⟩
abbrev zM_X2_arrive : zM := (yX2_arrive, cX2_arrive, 5, none)
theorem mk_X2_arrive : zMk zM_X2_arrive 3 := ⟨⟨by decide +kernel, by decide +kernel⟩, by decide +kernel, by decide, wd_595, wd_7⟩
abbrev zM_J13_bitCount_95d88 : zM := (yJ13_bitCount_95d88, cJ13_bitCount_95d88, 2, (Option.some Jvm.ClassFile.FieldType.int))
theorem mk_J13_bitCount_95d88 : zMk zM_J13_bitCount_95d88 1 := ⟨⟨by decide +kernel, by decide +kernel⟩, by decide +kernel, by decide, wd_600, wd_16⟩
abbrev zM_J13_numberOfTrailingZeros_95d88 : zM := (yJ13_numberOfTrailingZeros_95d88, cJ13_numberOfTrailingZeros_95d88, 3, (Option.some Jvm.ClassFile.FieldType.int))
theorem mk_J13_numberOfTrailingZeros_95d88 : zMk zM_J13_numberOfTrailingZeros_95d88 1 := ⟨⟨by decide +kernel, by decide +kernel⟩, by decide +kernel, by decide, wd_607, wd_16⟩
abbrev zM_J6_numberOfTrailingZeros_0f7a4 : zM := (yJ6_numberOfTrailingZeros_0f7a4, cJ6_numberOfTrailingZeros_0f7a4, 2, (Option.some Jvm.ClassFile.FieldType.int))
theorem mk_J6_numberOfTrailingZeros_0f7a4 : zMk zM_J6_numberOfTrailingZeros_0f7a4 1 := ⟨⟨by decide +kernel, by decide +kernel⟩, by decide +kernel, by decide, wd_610, wd_17⟩
abbrev zM_J13_numberOfLeadingZeros_95d88 : zM := (yJ13_numberOfLeadingZeros_95d88, cJ13_numberOfLeadingZeros_95d88, 3, (Option.some Jvm.ClassFile.FieldType.int))
theorem mk_J13_numberOfLeadingZeros_95d88 : zMk zM_J13_numberOfLeadingZeros_95d88 1 := ⟨⟨by decide +kernel, by decide +kernel⟩, by decide +kernel, by decide, wd_614, wd_16⟩
abbrev zM_J6_numberOfLeadingZeros_0f7a4 : zM := (yJ6_numberOfLeadingZeros_0f7a4, cJ6_numberOfLeadingZeros_0f7a4, 2, (Option.some Jvm.ClassFile.FieldType.int))
theorem mk_J6_numberOfLeadingZeros_0f7a4 : zMk zM_J6_numberOfLeadingZeros_0f7a4 1 := ⟨⟨by decide +kernel, by decide +kernel⟩, by decide +kernel, by decide, wd_617, wd_17⟩
abbrev zM_X7_soonest : zM := (yX7_soonest, cX7_soonest, 5, (Option.some Jvm.ClassFile.FieldType.int))
theorem mk_X7_soonest : zMk zM_X7_soonest 3 := ⟨⟨by decide +kernel, by decide +kernel⟩, by decide +kernel, by decide, wd_621, wd_1⟩
abbrev zM_X2_hasGain : zM := (yX2_hasGain, cX2_hasGain, 4, (Option.some Jvm.ClassFile.FieldType.boolean))
theorem mk_X2_hasGain : zMk zM_X2_hasGain 3 := ⟨⟨by decide +kernel, by decide +kernel⟩, by decide +kernel, by decide, wd_625, wd_7⟩
abbrev zM_X7_voyages : zM := (yX7_voyages, cX7_voyages, 6, (Option.some Jvm.ClassFile.FieldType.int))
theorem mk_X7_voyages : zMk zM_X7_voyages 2 := ⟨⟨by decide +kernel, by decide +kernel⟩, by decide +kernel, by decide, wd_629, wd_1⟩
abbrev zM_X3_oneVoyageMore : zM := (yX3_oneVoyageMore, cX3_oneVoyageMore, 7, (Option.some Jvm.ClassFile.FieldType.int))
theorem mk_X3_oneVoyageMore : zMk zM_X3_oneVoyageMore 2 := ⟨⟨by decide +kernel, by decide +kernel⟩, by decide +kernel, by decide, wd_633, wd_3⟩
abbrev zM_X7_even : zM := (yX7_even, cX7_even, 13, (Option.some Jvm.ClassFile.FieldType.int))
theorem mk_X7_even : zMk zM_X7_even 3 := ⟨⟨by decide +kernel, by decide +kernel⟩, by decide +kernel, by decide, wd_638, wd_1⟩
abbrev zM_J9_min_7cf53 : zM := (yJ9_min_7cf53, cJ9_min_7cf53, 2, (Option.some Jvm.ClassFile.FieldType.int))
theorem mk_J9_min_7cf53 : zMk zM_J9_min_7cf53 2 := ⟨⟨by decide +kernel, by decide +kernel⟩, by decide +kernel, by decide, wd_641, wd_15⟩
abbrev zM_X7_haveGainsApart : zM := (yX7_haveGainsApart, cX7_haveGainsApart, 7, (Option.some Jvm.ClassFile.FieldType.boolean))
theorem mk_X7_haveGainsApart : zMk zM_X7_haveGainsApart 3 := ⟨⟨by decide +kernel, by decide +kernel⟩, by decide +kernel, by decide, wd_644, wd_1⟩
abbrev zM_X7_where : zM := (yX7_where, cX7_where, 9, (Option.some Jvm.ClassFile.FieldType.int))
theorem mk_X7_where : zMk zM_X7_where 3 := ⟨⟨by decide +kernel, by decide +kernel⟩, by decide +kernel, by decide, wd_648, wd_1⟩
abbrev zM_X7_gone : zM := (yX7_gone, cX7_gone, 3, (Option.some Jvm.ClassFile.FieldType.int))
theorem mk_X7_gone : zMk zM_X7_gone 1 := ⟨⟨by decide +kernel, by decide +kernel⟩, by decide +kernel, by decide, wd_652, wd_1⟩
abbrev zM_X7_eldest : zM := (yX7_eldest, cX7_eldest, 6, (Option.some Jvm.ClassFile.FieldType.int))
theorem mk_X7_eldest : zMk zM_X7_eldest 1 := ⟨⟨by decide +kernel, by decide +kernel⟩, by decide +kernel, by decide, wd_656, wd_1⟩
abbrev zM_X7_image : zM := (yX7_image, cX7_image, 2, (Option.some Jvm.ClassFile.FieldType.int))
theorem mk_X7_image : zMk zM_X7_image 1 := ⟨⟨by decide +kernel, by decide +kernel⟩, by decide +kernel, by decide, wd_660, wd_1⟩
abbrev zM_X7_restore : zM := (yX7_restore, cX7_restore, 2, (Option.some Jvm.ClassFile.FieldType.int))
theorem mk_X7_restore : zMk zM_X7_restore 1 := ⟨⟨by decide +kernel, by decide +kernel⟩, by decide +kernel, by decide, wd_664, wd_1⟩
abbrev zM_X7_kind : zM := (yX7_kind, cX7_kind, 2, (Option.some Jvm.ClassFile.FieldType.int))
theorem mk_X7_kind : zMk zM_X7_kind 1 := ⟨⟨by decide +kernel, by decide +kernel⟩, by decide +kernel, by decide, wd_668, wd_1⟩
abbrev zM_X7_as : zM := (yX7_as, cX7_as, 3, (Option.some Jvm.ClassFile.FieldType.int))
theorem mk_X7_as : zMk zM_X7_as 2 := ⟨⟨by decide +kernel, by decide +kernel⟩, by decide +kernel, by decide, wd_672, wd_1⟩
abbrev zM_X7_isOfKind : zM := (yX7_isOfKind, cX7_isOfKind, 2, (Option.some Jvm.ClassFile.FieldType.boolean))
theorem mk_X7_isOfKind : zMk zM_X7_isOfKind 2 := ⟨⟨by decide +kernel, by decide +kernel⟩, by decide +kernel, by decide, wd_675, wd_1⟩
abbrev zM_X7_nearestKind : zM := (yX7_nearestKind, cX7_nearestKind, 1, (Option.some Jvm.ClassFile.FieldType.int))
theorem mk_X7_nearestKind : zMk zM_X7_nearestKind 1 := ⟨⟨by decide +kernel, by decide +kernel⟩, by decide +kernel, by decide, wd_678, wd_1⟩
abbrev zM_X7_ask : zM := (yX7_ask, cX7_ask, 4, (Option.some Jvm.ClassFile.FieldType.int))
theorem mk_X7_ask : zMk zM_X7_ask 2 := ⟨⟨by decide +kernel, by decide +kernel⟩, by decide +kernel, by decide, wd_682, wd_1⟩
abbrev zM_X1_size : zM := (yX1_size, cX1_size, 3, (Option.some Jvm.ClassFile.FieldType.int))
theorem mk_X1_size : zMk zM_X1_size 2 := ⟨⟨by decide +kernel, by decide +kernel⟩, by decide +kernel, by decide, wd_686, wd_8⟩
abbrev zM_X1_begin : zM := (yX1_begin, cX1_begin, 2, none)
theorem mk_X1_begin : zMk zM_X1_begin 1 := ⟨⟨by decide +kernel, by decide +kernel⟩, by decide +kernel, by decide, wd_690, wd_8⟩
abbrev zM_X1_sizeOfCaptain : zM := (yX1_sizeOfCaptain, cX1_sizeOfCaptain, 4, (Option.some Jvm.ClassFile.FieldType.int))
theorem mk_X1_sizeOfCaptain : zMk zM_X1_sizeOfCaptain 2 := ⟨⟨by decide +kernel, by decide +kernel⟩, by decide +kernel, by decide, wd_694, wd_8⟩
abbrev zM_X1_lentSize : zM := (yX1_lentSize, cX1_lentSize, 2, (Option.some Jvm.ClassFile.FieldType.int))
theorem mk_X1_lentSize : zMk zM_X1_lentSize 1 := ⟨⟨by decide +kernel, by decide +kernel⟩, by decide +kernel, by decide, wd_698, wd_8⟩
abbrev zM_X1_markAmongCaptains : zM := (yX1_markAmongCaptains, cX1_markAmongCaptains, 3, (Option.some Jvm.ClassFile.FieldType.int))
theorem mk_X1_markAmongCaptains : zMk zM_X1_markAmongCaptains 2 := ⟨⟨by decide +kernel, by decide +kernel⟩, by decide +kernel, by decide, wd_702, wd_8⟩
abbrev zM_X1_markOfCaptain : zM := (yX1_markOfCaptain, cX1_markOfCaptain, 3, (Option.some Jvm.ClassFile.FieldType.int))
theorem mk_X1_markOfCaptain : zMk zM_X1_markOfCaptain 2 := ⟨⟨by decide +kernel, by decide +kernel⟩, by decide +kernel, by decide, wd_706, wd_8⟩
abbrev zM_X1_lentMark : zM := (yX1_lentMark, cX1_lentMark, 2, (Option.some Jvm.ClassFile.FieldType.int))
theorem mk_X1_lentMark : zMk zM_X1_lentMark 1 := ⟨⟨by decide +kernel, by decide +kernel⟩, by decide +kernel, by decide, wd_710, wd_8⟩
abbrev zM_X1_sizeOfClerk : zM := (yX1_sizeOfClerk, cX1_sizeOfClerk, 2, (Option.some Jvm.ClassFile.FieldType.int))
theorem mk_X1_sizeOfClerk : zMk zM_X1_sizeOfClerk 1 := ⟨⟨by decide +kernel, by decide +kernel⟩, by decide +kernel, by decide, wd_714, wd_8⟩
abbrev zM_X1_mark : zM := (yX1_mark, cX1_mark, 4, (Option.some Jvm.ClassFile.FieldType.int))
theorem mk_X1_mark : zMk zM_X1_mark 2 := ⟨⟨by decide +kernel, by decide +kernel⟩, by decide +kernel, by decide, wd_718, wd_8⟩
abbrev zM_X7_trace : zM := (yX7_trace, cX7_trace, 2, (Option.some Jvm.ClassFile.FieldType.int))
theorem mk_X7_trace : zMk zM_X7_trace 1 := ⟨⟨by decide +kernel, by decide +kernel⟩, by decide +kernel, by decide, wd_724, wd_1⟩
abbrev zM_X7_count : zM := (yX7_count, cX7_count, 2, (Option.some Jvm.ClassFile.FieldType.int))
theorem mk_X7_count : zMk zM_X7_count 1 := ⟨⟨by decide +kernel, by decide +kernel⟩, by decide +kernel, by decide, wd_728, wd_1⟩
abbrev zM_X7_rowsThere : zM := (yX7_rowsThere, cX7_rowsThere, 3, (Option.some Jvm.ClassFile.FieldType.int))
theorem mk_X7_rowsThere : zMk zM_X7_rowsThere 0 := ⟨⟨by decide +kernel, by decide +kernel⟩, by decide +kernel, by decide, wd_732, wd_1⟩
abbrev zM_X7_status : zM := (yX7_status, cX7_status, 1, (Option.some Jvm.ClassFile.FieldType.int))
theorem mk_X7_status : zMk zM_X7_status 0 := ⟨⟨by decide +kernel, by decide +kernel⟩, by decide +kernel, by decide, wd_736, wd_1⟩
abbrev zM_X8_init : zM := (yX8_init, cX8_init, 1, none)
theorem mk_X8_init : zMk zM_X8_init 0 := ⟨⟨by decide +kernel, by decide +kernel⟩, by decide +kernel, by decide, wd_741, wd_9⟩
abbrev zM_X8_row : zM := (yX8_row, cX8_row, 5, (Option.some Jvm.ClassFile.FieldType.int))
theorem mk_X8_row : zMk zM_X8_row 3 := ⟨⟨by decide +kernel, by decide +kernel⟩, by decide +kernel, by decide, wd_822, wd_9⟩
abbrev zM_X8_isRow : zM := (yX8_isRow, cX8_isRow, 1, (Option.some Jvm.ClassFile.FieldType.boolean))
theorem mk_X8_isRow : zMk zM_X8_isRow 1 := ⟨⟨by decide +kernel, by decide +kernel⟩, by decide +kernel, by decide, wd_825, wd_9⟩
abbrev zM_X8_in : zM := (yX8_in, cX8_in, 6, (Option.some Jvm.ClassFile.FieldType.boolean))
theorem mk_X8_in : zMk zM_X8_in 3 := ⟨⟨by decide +kernel, by decide +kernel⟩, by decide +kernel, by decide, wd_829, wd_9⟩
abbrev zM_X8_finding : zM := (yX8_finding, cX8_finding, 2, (Option.some Jvm.ClassFile.FieldType.int))
theorem mk_X8_finding : zMk zM_X8_finding 1 := ⟨⟨by decide +kernel, by decide +kernel⟩, by decide +kernel, by decide, wd_835, wd_9⟩
abbrev zM_X8_set : zM := (yX8_set, cX8_set, 4, (Option.some Jvm.ClassFile.FieldType.int))
theorem mk_X8_set : zMk zM_X8_set 3 := ⟨⟨by decide +kernel, by decide +kernel⟩, by decide +kernel, by decide, wd_840, wd_9⟩
abbrev zM_X8_copy : zM := (yX8_copy, cX8_copy, 9, (Option.some Jvm.ClassFile.FieldType.int))
theorem mk_X8_copy : zMk zM_X8_copy 5 := ⟨⟨by decide +kernel, by decide +kernel⟩, by decide +kernel, by decide, wd_844, wd_9⟩
abbrev zM_X8_drop : zM := (yX8_drop, cX8_drop, 2, (Option.some Jvm.ClassFile.FieldType.int))
theorem mk_X8_drop : zMk zM_X8_drop 1 := ⟨⟨by decide +kernel, by decide +kernel⟩, by decide +kernel, by decide, wd_848, wd_9⟩
abbrev zM_X8_feed : zM := (yX8_feed, cX8_feed, 5, (Option.some Jvm.ClassFile.FieldType.int))
theorem mk_X8_feed : zMk zM_X8_feed 2 := ⟨⟨by decide +kernel, by decide +kernel⟩, by decide +kernel, by decide, wd_852, wd_9⟩
abbrev zM_X8_league : zM := (yX8_league, cX8_league, 2, (Option.some Jvm.ClassFile.FieldType.int))
theorem mk_X8_league : zMk zM_X8_league 0 := ⟨⟨by decide +kernel, by decide +kernel⟩, by decide +kernel, by decide, wd_859, wd_9⟩
abbrev zM_X8_begin : zM := (yX8_begin, cX8_begin, 1, none)
theorem mk_X8_begin : zMk zM_X8_begin 0 := ⟨⟨by decide +kernel, by decide +kernel⟩, by decide +kernel, by decide, wd_863, wd_9⟩
abbrev zM_X8_next : zM := (yX8_next, cX8_next, 2, none)
theorem mk_X8_next : zMk zM_X8_next 0 := ⟨⟨by decide +kernel, by decide +kernel⟩, by decide +kernel, by decide, wd_867, wd_9⟩
abbrev zM_X8_byteAt : zM := (yX8_byteAt, cX8_byteAt, 2, (Option.some Jvm.ClassFile.FieldType.int))
theorem mk_X8_byteAt : zMk zM_X8_byteAt 1 := ⟨⟨by decide +kernel, by decide +kernel⟩, by decide +kernel, by decide, wd_871, wd_9⟩
abbrev zM_X8_isLetter : zM := (yX8_isLetter, cX8_isLetter, 1, (Option.some Jvm.ClassFile.FieldType.boolean))
theorem mk_X8_isLetter : zMk zM_X8_isLetter 1 := ⟨⟨by decide +kernel, by decide +kernel⟩, by decide +kernel, by decide, wd_875, wd_9⟩
abbrev zM_X8_isFigure : zM := (yX8_isFigure, cX8_isFigure, 1, (Option.some Jvm.ClassFile.FieldType.boolean))
theorem mk_X8_isFigure : zMk zM_X8_isFigure 1 := ⟨⟨by decide +kernel, by decide +kernel⟩, by decide +kernel, by decide, wd_878, wd_9⟩
abbrev zM_X8_name : zM := (yX8_name, cX8_name, 4, (Option.some Jvm.ClassFile.FieldType.long))
theorem mk_X8_name : zMk zM_X8_name 0 := ⟨⟨by decide +kernel, by decide +kernel⟩, by decide +kernel, by decide, wd_882, wd_9⟩
abbrev zM_X8_must : zM := (yX8_must, cX8_must, 2, none)
theorem mk_X8_must : zMk zM_X8_must 1 := ⟨⟨by decide +kernel, by decide +kernel⟩, by decide +kernel, by decide, wd_887, wd_9⟩
abbrev zM_X8_bad : zM := (yX8_bad, cX8_bad, 2, none)
theorem mk_X8_bad : zMk zM_X8_bad 1 := ⟨⟨by decide +kernel, by decide +kernel⟩, by decide +kernel, by decide, wd_891, wd_9⟩
abbrev zM_X8_number : zM := (yX8_number, cX8_number, 4, (Option.some Jvm.ClassFile.FieldType.int))
theorem mk_X8_number : zMk zM_X8_number 2 := ⟨⟨by decide +kernel, by decide +kernel⟩, by decide +kernel, by decide, wd_895, wd_9⟩
abbrev zM_X8_figures : zM := (yX8_figures, cX8_figures, 3, (Option.some Jvm.ClassFile.FieldType.int))
theorem mk_X8_figures : zMk zM_X8_figures 0 := ⟨⟨by decide +kernel, by decide +kernel⟩, by decide +kernel, by decide, wd_899, wd_9⟩
abbrev zM_X8_mustEnd : zM := (yX8_mustEnd, cX8_mustEnd, 1, none)
theorem mk_X8_mustEnd : zMk zM_X8_mustEnd 0 := ⟨⟨by decide +kernel, by decide +kernel⟩, by decide +kernel, by decide, wd_903, wd_9⟩
abbrev zM_X8_readWay : zM := (yX8_readWay, cX8_readWay, 6, none)
theorem mk_X8_readWay : zMk zM_X8_readWay 0 := ⟨⟨by decide +kernel, by decide +kernel⟩, by decide +kernel, by decide, wd_908, wd_9⟩
abbrev zM_X8_begins : zM := (yX8_begins, cX8_begins, 3, none)
theorem mk_X8_begins : zMk zM_X8_begins 2 := ⟨⟨by decide +kernel, by decide +kernel⟩, by decide +kernel, by decide, wd_912, wd_9⟩
abbrev zM_X8_readPerson : zM := (yX8_readPerson, cX8_readPerson, 5, none)
theorem mk_X8_readPerson : zMk zM_X8_readPerson 0 := ⟨⟨by decide +kernel, by decide +kernel⟩, by decide +kernel, by decide, wd_917, wd_9⟩
abbrev zM_X8_kindBy : zM := (yX8_kindBy, cX8_kindBy, 2, (Option.some Jvm.ClassFile.FieldType.int))
theorem mk_X8_kindBy : zMk zM_X8_kindBy 1 := ⟨⟨by decide +kernel, by decide +kernel⟩, by decide +kernel, by decide, wd_920, wd_9⟩
abbrev zM_X8_fault : zM := (yX8_fault, cX8_fault, 1, (Option.some Jvm.ClassFile.FieldType.int))
theorem mk_X8_fault : zMk zM_X8_fault 0 := ⟨⟨by decide +kernel, by decide +kernel⟩, by decide +kernel, by decide, wd_930, wd_9⟩
abbrev zM_X8_sail : zM := (yX8_sail, cX8_sail, 3, (Option.some Jvm.ClassFile.FieldType.int))
theorem mk_X8_sail : zMk zM_X8_sail 2 := ⟨⟨by decide +kernel, by decide +kernel⟩, by decide +kernel, by decide, wd_934, wd_9⟩
abbrev zM_X8_isPerson : zM := (yX8_isPerson, cX8_isPerson, 2, (Option.some Jvm.ClassFile.FieldType.boolean))
theorem mk_X8_isPerson : zMk zM_X8_isPerson 1 := ⟨⟨by decide +kernel, by decide +kernel⟩, by decide +kernel, by decide, wd_938, wd_9⟩
abbrev zM_X8_isWay : zM := (yX8_isWay, cX8_isWay, 2, (Option.some Jvm.ClassFile.FieldType.boolean))
theorem mk_X8_isWay : zMk zM_X8_isWay 1 := ⟨⟨by decide +kernel, by decide +kernel⟩, by decide +kernel, by decide, wd_942, wd_9⟩
abbrev zM_X8_goes : zM := (yX8_goes, cX8_goes, 4, (Option.some Jvm.ClassFile.FieldType.int))
theorem mk_X8_goes : zMk zM_X8_goes 2 := ⟨⟨by decide +kernel, by decide +kernel⟩, by decide +kernel, by decide, wd_946, wd_9⟩
abbrev zM_X8_of : zM := (yX8_of, cX8_of, 3, (Option.some Jvm.ClassFile.FieldType.int))
theorem mk_X8_of : zMk zM_X8_of 2 := ⟨⟨by decide +kernel, by decide +kernel⟩, by decide +kernel, by decide, wd_950, wd_9⟩
abbrev zM_X8_endOf : zM := (yX8_endOf, cX8_endOf, 5, (Option.some Jvm.ClassFile.FieldType.int))
theorem mk_X8_endOf : zMk zM_X8_endOf 3 := ⟨⟨by decide +kernel, by decide +kernel⟩, by decide +kernel, by decide, wd_954, wd_9⟩
abbrev zM_X8_wayOf : zM := (yX8_wayOf, cX8_wayOf, 3, (Option.some Jvm.ClassFile.FieldType.int))
theorem mk_X8_wayOf : zMk zM_X8_wayOf 2 := ⟨⟨by decide +kernel, by decide +kernel⟩, by decide +kernel, by decide, wd_958, wd_9⟩
abbrev zM_X8_keep : zM := (yX8_keep, cX8_keep, 2, none)
theorem mk_X8_keep : zMk zM_X8_keep 0 := ⟨⟨by decide +kernel, by decide +kernel⟩, by decide +kernel, by decide, wd_963, wd_9⟩
abbrev zM_X8_agesBy : zM := (yX8_agesBy, cX8_agesBy, 4, (Option.some Jvm.ClassFile.FieldType.int))
theorem mk_X8_agesBy : zMk zM_X8_agesBy 2 := ⟨⟨by decide +kernel, by decide +kernel⟩, by decide +kernel, by decide, wd_967, wd_9⟩
abbrev zM_X8_ages : zM := (yX8_ages, cX8_ages, 4, none)
theorem mk_X8_ages : zMk zM_X8_ages 3 := ⟨⟨by decide +kernel, by decide +kernel⟩, by decide +kernel, by decide, wd_971, wd_9⟩
abbrev zM_X8_sails : zM := (yX8_sails, cX8_sails, 6, (Option.some Jvm.ClassFile.FieldType.int))
theorem mk_X8_sails : zMk zM_X8_sails 4 := ⟨⟨by decide +kernel, by decide +kernel⟩, by decide +kernel, by decide, wd_975, wd_9⟩
abbrev zM_X8_stay : zM := (yX8_stay, cX8_stay, 3, (Option.some Jvm.ClassFile.FieldType.int))
theorem mk_X8_stay : zMk zM_X8_stay 2 := ⟨⟨by decide +kernel, by decide +kernel⟩, by decide +kernel, by decide, wd_980, wd_9⟩
abbrev zM_X8_meet : zM := (yX8_meet, cX8_meet, 4, (Option.some Jvm.ClassFile.FieldType.int))
theorem mk_X8_meet : zMk zM_X8_meet 2 := ⟨⟨by decide +kernel, by decide +kernel⟩, by decide +kernel, by decide, wd_985, wd_9⟩
abbrev zM_X8_borrow : zM := (yX8_borrow, cX8_borrow, 4, (Option.some Jvm.ClassFile.FieldType.int))
theorem mk_X8_borrow : zMk zM_X8_borrow 2 := ⟨⟨by decide +kernel, by decide +kernel⟩, by decide +kernel, by decide, wd_989, wd_9⟩
abbrev zM_X8_owedBy : zM := (yX8_owedBy, cX8_owedBy, 3, (Option.some Jvm.ClassFile.FieldType.int))
theorem mk_X8_owedBy : zMk zM_X8_owedBy 2 := ⟨⟨by decide +kernel, by decide +kernel⟩, by decide +kernel, by decide, wd_994, wd_9⟩
abbrev zM_X8_grown : zM := (yX8_grown, cX8_grown, 6, (Option.some Jvm.ClassFile.FieldType.int))
theorem mk_X8_grown : zMk zM_X8_grown 2 := ⟨⟨by decide +kernel, by decide +kernel⟩, by decide +kernel, by decide, wd_998, wd_9⟩
abbrev zM_X8_undo : zM := (yX8_undo, cX8_undo, 2, (Option.some Jvm.ClassFile.FieldType.int))
theorem mk_X8_undo : zMk zM_X8_undo 0 := ⟨⟨by decide +kernel, by decide +kernel⟩, by decide +kernel, by decide, wd_1003, wd_9⟩
abbrev zM_X8_person : zM := (yX8_person, cX8_person, 3, (Option.some Jvm.ClassFile.FieldType.int))
theorem mk_X8_person : zMk zM_X8_person 2 := ⟨⟨by decide +kernel, by decide +kernel⟩, by decide +kernel, by decide, wd_1007, wd_9⟩
abbrev zM_X8_gains : zM := (yX8_gains, cX8_gains, 9, (Option.some Jvm.ClassFile.FieldType.int))
theorem mk_X8_gains : zMk zM_X8_gains 4 := ⟨⟨by decide +kernel, by decide +kernel⟩, by decide +kernel, by decide, wd_1012, wd_9⟩
abbrev zM_X8_isHarbour : zM := (yX8_isHarbour, cX8_isHarbour, 2, (Option.some Jvm.ClassFile.FieldType.boolean))
theorem mk_X8_isHarbour : zMk zM_X8_isHarbour 1 := ⟨⟨by decide +kernel, by decide +kernel⟩, by decide +kernel, by decide, wd_1016, wd_9⟩
abbrev zM_X8_layGains : zM := (yX8_layGains, cX8_layGains, 9, none)
theorem mk_X8_layGains : zMk zM_X8_layGains 1 := ⟨⟨by decide +kernel, by decide +kernel⟩, by decide +kernel, by decide, wd_1021, wd_9⟩
abbrev zM_X8_soonest : zM := (yX8_soonest, cX8_soonest, 5, (Option.some Jvm.ClassFile.FieldType.int))
theorem mk_X8_soonest : zMk zM_X8_soonest 3 := ⟨⟨by decide +kernel, by decide +kernel⟩, by decide +kernel, by decide, wd_1025, wd_9⟩
abbrev zM_X8_voyages : zM := (yX8_voyages, cX8_voyages, 9, (Option.some Jvm.ClassFile.FieldType.int))
theorem mk_X8_voyages : zMk zM_X8_voyages 2 := ⟨⟨by decide +kernel, by decide +kernel⟩, by decide +kernel, by decide, wd_1029, wd_9⟩
abbrev zM_X8_even : zM := (yX8_even, cX8_even, 11, (Option.some Jvm.ClassFile.FieldType.int))
theorem mk_X8_even : zMk zM_X8_even 3 := ⟨⟨by decide +kernel, by decide +kernel⟩, by decide +kernel, by decide, wd_1033, wd_9⟩
abbrev zM_X8_where : zM := (yX8_where, cX8_where, 8, (Option.some Jvm.ClassFile.FieldType.int))
theorem mk_X8_where : zMk zM_X8_where 3 := ⟨⟨by decide +kernel, by decide +kernel⟩, by decide +kernel, by decide, wd_1037, wd_9⟩
abbrev zM_X8_gone : zM := (yX8_gone, cX8_gone, 2, (Option.some Jvm.ClassFile.FieldType.int))
theorem mk_X8_gone : zMk zM_X8_gone 1 := ⟨⟨by decide +kernel, by decide +kernel⟩, by decide +kernel, by decide, wd_1043, wd_9⟩
abbrev zM_X8_eldest : zM := (yX8_eldest, cX8_eldest, 5, (Option.some Jvm.ClassFile.FieldType.int))
theorem mk_X8_eldest : zMk zM_X8_eldest 1 := ⟨⟨by decide +kernel, by decide +kernel⟩, by decide +kernel, by decide, wd_1047, wd_9⟩
abbrev zM_X8_isThere : zM := (yX8_isThere, cX8_isThere, 1, (Option.some Jvm.ClassFile.FieldType.boolean))
theorem mk_X8_isThere : zMk zM_X8_isThere 0 := ⟨⟨by decide +kernel, by decide +kernel⟩, by decide +kernel, by decide, wd_1051, wd_9⟩
abbrev zM_X8_image : zM := (yX8_image, cX8_image, 3, (Option.some Jvm.ClassFile.FieldType.int))
theorem mk_X8_image : zMk zM_X8_image 1 := ⟨⟨by decide +kernel, by decide +kernel⟩, by decide +kernel, by decide, wd_1055, wd_9⟩
abbrev zM_X8_restore : zM := (yX8_restore, cX8_restore, 3, (Option.some Jvm.ClassFile.FieldType.int))
theorem mk_X8_restore : zMk zM_X8_restore 1 := ⟨⟨by decide +kernel, by decide +kernel⟩, by decide +kernel, by decide, wd_1059, wd_9⟩
abbrev zM_X8_kind : zM := (yX8_kind, cX8_kind, 2, (Option.some Jvm.ClassFile.FieldType.int))
theorem mk_X8_kind : zMk zM_X8_kind 1 := ⟨⟨by decide +kernel, by decide +kernel⟩, by decide +kernel, by decide, wd_1063, wd_9⟩
abbrev zM_X8_as : zM := (yX8_as, cX8_as, 3, (Option.some Jvm.ClassFile.FieldType.int))
theorem mk_X8_as : zMk zM_X8_as 2 := ⟨⟨by decide +kernel, by decide +kernel⟩, by decide +kernel, by decide, wd_1067, wd_9⟩
abbrev zM_X8_isOf : zM := (yX8_isOf, cX8_isOf, 2, (Option.some Jvm.ClassFile.FieldType.boolean))
theorem mk_X8_isOf : zMk zM_X8_isOf 2 := ⟨⟨by decide +kernel, by decide +kernel⟩, by decide +kernel, by decide, wd_1070, wd_9⟩
abbrev zM_X8_ask : zM := (yX8_ask, cX8_ask, 3, (Option.some Jvm.ClassFile.FieldType.int))
theorem mk_X8_ask : zMk zM_X8_ask 2 := ⟨⟨by decide +kernel, by decide +kernel⟩, by decide +kernel, by decide, wd_1074, wd_9⟩
abbrev zM_X8_sizeOf : zM := (yX8_sizeOf, cX8_sizeOf, 4, (Option.some Jvm.ClassFile.FieldType.int))
theorem mk_X8_sizeOf : zMk zM_X8_sizeOf 1 := ⟨⟨by decide +kernel, by decide +kernel⟩, by decide +kernel, by decide, wd_1078, wd_9⟩
abbrev zM_X8_clerkSize : zM := (yX8_clerkSize, cX8_clerkSize, 3, (Option.some Jvm.ClassFile.FieldType.int))
theorem mk_X8_clerkSize : zMk zM_X8_clerkSize 1 := ⟨⟨by decide +kernel, by decide +kernel⟩, by decide +kernel, by decide, wd_1082, wd_9⟩
abbrev zM_X8_began : zM := (yX8_began, cX8_began, 2, none)
theorem mk_X8_began : zMk zM_X8_began 1 := ⟨⟨by decide +kernel, by decide +kernel⟩, by decide +kernel, by decide, wd_1086, wd_9⟩
abbrev zM_X8_plainSize : zM := (yX8_plainSize, cX8_plainSize, 2, (Option.some Jvm.ClassFile.FieldType.int))
theorem mk_X8_plainSize : zMk zM_X8_plainSize 1 := ⟨⟨by decide +kernel, by decide +kernel⟩, by decide +kernel, by decide, wd_1090, wd_9⟩
abbrev zM_X8_markOf : zM := (yX8_markOf, cX8_markOf, 4, (Option.some Jvm.ClassFile.FieldType.int))
theorem mk_X8_markOf : zMk zM_X8_markOf 1 := ⟨⟨by decide +kernel, by decide +kernel⟩, by decide +kernel, by decide, wd_1094, wd_9⟩
abbrev zM_X8_trace : zM := (yX8_trace, cX8_trace, 2, (Option.some Jvm.ClassFile.FieldType.int))
theorem mk_X8_trace : zMk zM_X8_trace 1 := ⟨⟨by decide +kernel, by decide +kernel⟩, by decide +kernel, by decide, wd_1098, wd_9⟩
abbrev zM_X8_count : zM := (yX8_count, cX8_count, 4, (Option.some Jvm.ClassFile.FieldType.int))
theorem mk_X8_count : zMk zM_X8_count 1 := ⟨⟨by decide +kernel, by decide +kernel⟩, by decide +kernel, by decide, wd_1102, wd_9⟩
abbrev zM_X8_status : zM := (yX8_status, cX8_status, 1, (Option.some Jvm.ClassFile.FieldType.int))
theorem mk_X8_status : zMk zM_X8_status 0 := ⟨⟨by decide +kernel, by decide +kernel⟩, by decide +kernel, by decide, wd_1106, wd_9⟩
theorem fl_X5_9 : zFl RX5 9 5 0 := ⟨RX5, TX5, 8, rfl, zin5, by decide, wd_34⟩
theorem fp_X5_9 : zFp RX5 9 5 0 (.array .int) true := ⟨RX5, TX5, 8, tyX5, rfl, zin5, by decide, wd_34, tyX5_ok, nmX5, by decide +kernel, rfl, fun _ => rfl⟩
theorem fl_X5_15 : zFl RX5 15 5 1 := ⟨RX5, TX5, 8, rfl, zin5, by decide, wd_35⟩
theorem fp_X5_15 : zFp RX5 15 5 1 .int false := ⟨RX5, TX5, 8, tyX5, rfl, zin5, by decide, wd_35, tyX5_ok, nmX5, by decide +kernel, rfl, fun h => absurd h (by decide)⟩
theorem fl_X7_113 : zFl RX7 113 5 1 := ⟨RX5, TX5, 8, rfl, zin5, by decide, wd_36⟩
theorem fp_X7_113 : zFp RX7 113 5 1 .int false := ⟨RX5, TX5, 8, tyX5, rfl, zin5, by decide, wd_36, tyX5_ok, nmX5, by decide +kernel, rfl, fun h => absurd h (by decide)⟩
theorem fl_X5_19 : zFl RX5 19 5 2 := ⟨RX5, TX5, 8, rfl, zin5, by decide, wd_37⟩
theorem fp_X5_19 : zFp RX5 19 5 2 .int false := ⟨RX5, TX5, 8, tyX5, rfl, zin5, by decide, wd_37, tyX5_ok, nmX5, by decide +kernel, rfl, fun h => absurd h (by decide)⟩
theorem fl_X5_22 : zFl RX5 22 5 3 := ⟨RX5, TX5, 8, rfl, zin5, by decide, wd_38⟩
theorem fp_X5_22 : zFp RX5 22 5 3 .int false := ⟨RX5, TX5, 8, tyX5, rfl, zin5, by decide, wd_38, tyX5_ok, nmX5, by decide +kernel, rfl, fun h => absurd h (by decide)⟩
theorem fl_X5_25 : zFl RX5 25 5 4 := ⟨RX5, TX5, 8, rfl, zin5, by decide, wd_39⟩
theorem fp_X5_25 : zFp RX5 25 5 4 .int false := ⟨RX5, TX5, 8, tyX5, rfl, zin5, by decide, wd_39, tyX5_ok, nmX5, by decide +kernel, rfl, fun h => absurd h (by decide)⟩
theorem fl_X5_28 : zFl RX5 28 5 5 := ⟨RX5, TX5, 8, rfl, zin5, by decide, wd_40⟩
theorem fp_X5_28 : zFp RX5 28 5 5 .int false := ⟨RX5, TX5, 8, tyX5, rfl, zin5, by decide, wd_40, tyX5_ok, nmX5, by decide +kernel, rfl, fun h => absurd h (by decide)⟩
theorem fl_X5_31 : zFl RX5 31 5 6 := ⟨RX5, TX5, 8, rfl, zin5, by decide, wd_41⟩
theorem fp_X5_31 : zFp RX5 31 5 6 .int false := ⟨RX5, TX5, 8, tyX5, rfl, zin5, by decide, wd_41, tyX5_ok, nmX5, by decide +kernel, rfl, fun h => absurd h (by decide)⟩
theorem fl_X7_125 : zFl RX7 125 5 6 := ⟨RX5, TX5, 8, rfl, zin5, by decide, wd_42⟩
theorem fp_X7_125 : zFp RX7 125 5 6 .int false := ⟨RX5, TX5, 8, tyX5, rfl, zin5, by decide, wd_42, tyX5_ok, nmX5, by decide +kernel, rfl, fun h => absurd h (by decide)⟩
theorem fl_X5_34 : zFl RX5 34 5 7 := ⟨RX5, TX5, 8, rfl, zin5, by decide, wd_43⟩
theorem fp_X5_34 : zFp RX5 34 5 7 .int false := ⟨RX5, TX5, 8, tyX5, rfl, zin5, by decide, wd_43, tyX5_ok, nmX5, by decide +kernel, rfl, fun h => absurd h (by decide)⟩
theorem fl_X7_129 : zFl RX7 129 5 7 := ⟨RX5, TX5, 8, rfl, zin5, by decide, wd_44⟩
theorem fp_X7_129 : zFp RX7 129 5 7 .int false := ⟨RX5, TX5, 8, tyX5, rfl, zin5, by decide, wd_44, tyX5_ok, nmX5, by decide +kernel, rfl, fun h => absurd h (by decide)⟩
theorem fl_X6_7 : zFl RX6 7 6 0 := ⟨RX6, TX6, 4, rfl, zin6, by decide, wd_78⟩
theorem fp_X6_7 : zFp RX6 7 6 0 .int false := ⟨RX6, TX6, 4, tyX6, rfl, zin6, by decide, wd_78, tyX6_ok, nmX6, by decide +kernel, rfl, fun h => absurd h (by decide)⟩
theorem fl_X3_45 : zFl RX3 45 6 0 := ⟨RX6, TX6, 4, rfl, zin6, by decide, wd_79⟩
theorem fp_X3_45 : zFp RX3 45 6 0 .int false := ⟨RX6, TX6, 4, tyX6, rfl, zin6, by decide, wd_79, tyX6_ok, nmX6, by decide +kernel, rfl, fun h => absurd h (by decide)⟩
theorem fl_X5_93 : zFl RX5 93 6 0 := ⟨RX6, TX6, 4, rfl, zin6, by decide, wd_80⟩
theorem fp_X5_93 : zFp RX5 93 6 0 .int false := ⟨RX6, TX6, 4, tyX6, rfl, zin6, by decide, wd_80, tyX6_ok, nmX6, by decide +kernel, rfl, fun h => absurd h (by decide)⟩
theorem fl_X2_55 : zFl RX2 55 6 0 := ⟨RX6, TX6, 4, rfl, zin6, by decide, wd_81⟩
theorem fp_X2_55 : zFp RX2 55 6 0 .int false := ⟨RX6, TX6, 4, tyX6, rfl, zin6, by decide, wd_81, tyX6_ok, nmX6, by decide +kernel, rfl, fun h => absurd h (by decide)⟩
theorem fl_X6_13 : zFl RX6 13 6 1 := ⟨RX6, TX6, 4, rfl, zin6, by decide, wd_82⟩
theorem fp_X6_13 : zFp RX6 13 6 1 .int false := ⟨RX6, TX6, 4, tyX6, rfl, zin6, by decide, wd_82, tyX6_ok, nmX6, by decide +kernel, rfl, fun h => absurd h (by decide)⟩
theorem fl_X3_48 : zFl RX3 48 6 1 := ⟨RX6, TX6, 4, rfl, zin6, by decide, wd_83⟩
theorem fp_X3_48 : zFp RX3 48 6 1 .int false := ⟨RX6, TX6, 4, tyX6, rfl, zin6, by decide, wd_83, tyX6_ok, nmX6, by decide +kernel, rfl, fun h => absurd h (by decide)⟩
theorem fl_X5_98 : zFl RX5 98 6 1 := ⟨RX6, TX6, 4, rfl, zin6, by decide, wd_84⟩
theorem fp_X5_98 : zFp RX5 98 6 1 .int false := ⟨RX6, TX6, 4, tyX6, rfl, zin6, by decide, wd_84, tyX6_ok, nmX6, by decide +kernel, rfl, fun h => absurd h (by decide)⟩
theorem fl_X2_58 : zFl RX2 58 6 1 := ⟨RX6, TX6, 4, rfl, zin6, by decide, wd_85⟩
theorem fp_X2_58 : zFp RX2 58 6 1 .int false := ⟨RX6, TX6, 4, tyX6, rfl, zin6, by decide, wd_85, tyX6_ok, nmX6, by decide +kernel, rfl, fun h => absurd h (by decide)⟩
theorem fl_X6_16 : zFl RX6 16 6 2 := ⟨RX6, TX6, 4, rfl, zin6, by decide, wd_86⟩
theorem fp_X6_16 : zFp RX6 16 6 2 .int false := ⟨RX6, TX6, 4, tyX6, rfl, zin6, by decide, wd_86, tyX6_ok, nmX6, by decide +kernel, rfl, fun h => absurd h (by decide)⟩
theorem fl_X5_101 : zFl RX5 101 6 2 := ⟨RX6, TX6, 4, rfl, zin6, by decide, wd_87⟩
theorem fp_X5_101 : zFp RX5 101 6 2 .int false := ⟨RX6, TX6, 4, tyX6, rfl, zin6, by decide, wd_87, tyX6_ok, nmX6, by decide +kernel, rfl, fun h => absurd h (by decide)⟩
theorem fl_X2_46 : zFl RX2 46 6 2 := ⟨RX6, TX6, 4, rfl, zin6, by decide, wd_88⟩
theorem fp_X2_46 : zFp RX2 46 6 2 .int false := ⟨RX6, TX6, 4, tyX6, rfl, zin6, by decide, wd_88, tyX6_ok, nmX6, by decide +kernel, rfl, fun h => absurd h (by decide)⟩
theorem fl_X4_36 : zFl RX4 36 6 2 := ⟨RX6, TX6, 4, rfl, zin6, by decide, wd_89⟩
theorem fp_X4_36 : zFp RX4 36 6 2 .int false := ⟨RX6, TX6, 4, tyX6, rfl, zin6, by decide, wd_89, tyX6_ok, nmX6, by decide +kernel, rfl, fun h => absurd h (by decide)⟩
theorem fl_X7_281 : zFl RX7 281 6 2 := ⟨RX6, TX6, 4, rfl, zin6, by decide, wd_90⟩
theorem fp_X7_281 : zFp RX7 281 6 2 .int false := ⟨RX6, TX6, 4, tyX6, rfl, zin6, by decide, wd_90, tyX6_ok, nmX6, by decide +kernel, rfl, fun h => absurd h (by decide)⟩
theorem fl_X6_19 : zFl RX6 19 6 3 := ⟨RX6, TX6, 4, rfl, zin6, by decide, wd_91⟩
theorem fp_X6_19 : zFp RX6 19 6 3 .int false := ⟨RX6, TX6, 4, tyX6, rfl, zin6, by decide, wd_91, tyX6_ok, nmX6, by decide +kernel, rfl, fun h => absurd h (by decide)⟩
theorem fl_X5_104 : zFl RX5 104 6 3 := ⟨RX6, TX6, 4, rfl, zin6, by decide, wd_92⟩
theorem fp_X5_104 : zFp RX5 104 6 3 .int false := ⟨RX6, TX6, 4, tyX6, rfl, zin6, by decide, wd_92, tyX6_ok, nmX6, by decide +kernel, rfl, fun h => absurd h (by decide)⟩
theorem fl_X4_41 : zFl RX4 41 6 3 := ⟨RX6, TX6, 4, rfl, zin6, by decide, wd_93⟩
theorem fp_X4_41 : zFp RX4 41 6 3 .int false := ⟨RX6, TX6, 4, tyX6, rfl, zin6, by decide, wd_93, tyX6_ok, nmX6, by decide +kernel, rfl, fun h => absurd h (by decide)⟩
theorem fl_X4_9 : zFl RX4 9 4 0 := ⟨RX4, TX4, 8, rfl, zin4, by decide, wd_108⟩
theorem fp_X4_9 : zFp RX4 9 4 0 .int false := ⟨RX4, TX4, 8, tyX4, rfl, zin4, by decide, wd_108, tyX4_ok, nmX4, by decide +kernel, rfl, fun h => absurd h (by decide)⟩
theorem fl_X1_19 : zFl RX1 19 4 0 := ⟨RX4, TX4, 8, rfl, zin4, by decide, wd_109⟩
theorem fp_X1_19 : zFp RX1 19 4 0 .int false := ⟨RX4, TX4, 8, tyX4, rfl, zin4, by decide, wd_109, tyX4_ok, nmX4, by decide +kernel, rfl, fun h => absurd h (by decide)⟩
theorem fl_X7_242 : zFl RX7 242 4 0 := ⟨RX4, TX4, 8, rfl, zin4, by decide, wd_110⟩
theorem fp_X7_242 : zFp RX7 242 4 0 .int false := ⟨RX4, TX4, 8, tyX4, rfl, zin4, by decide, wd_110, tyX4_ok, nmX4, by decide +kernel, rfl, fun h => absurd h (by decide)⟩
theorem fl_X4_15 : zFl RX4 15 4 1 := ⟨RX4, TX4, 8, rfl, zin4, by decide, wd_111⟩
theorem fp_X4_15 : zFp RX4 15 4 1 .int false := ⟨RX4, TX4, 8, tyX4, rfl, zin4, by decide, wd_111, tyX4_ok, nmX4, by decide +kernel, rfl, fun h => absurd h (by decide)⟩
theorem fl_X7_239 : zFl RX7 239 4 1 := ⟨RX4, TX4, 8, rfl, zin4, by decide, wd_112⟩
theorem fp_X7_239 : zFp RX7 239 4 1 .int false := ⟨RX4, TX4, 8, tyX4, rfl, zin4, by decide, wd_112, tyX4_ok, nmX4, by decide +kernel, rfl, fun h => absurd h (by decide)⟩
theorem fl_X4_18 : zFl RX4 18 4 2 := ⟨RX4, TX4, 8, rfl, zin4, by decide, wd_113⟩
theorem fp_X4_18 : zFp RX4 18 4 2 .int false := ⟨RX4, TX4, 8, tyX4, rfl, zin4, by decide, wd_113, tyX4_ok, nmX4, by decide +kernel, rfl, fun h => absurd h (by decide)⟩
theorem fl_X2_23 : zFl RX2 23 4 2 := ⟨RX4, TX4, 8, rfl, zin4, by decide, wd_114⟩
theorem fp_X2_23 : zFp RX2 23 4 2 .int false := ⟨RX4, TX4, 8, tyX4, rfl, zin4, by decide, wd_114, tyX4_ok, nmX4, by decide +kernel, rfl, fun h => absurd h (by decide)⟩
theorem fl_X7_154 : zFl RX7 154 4 2 := ⟨RX4, TX4, 8, rfl, zin4, by decide, wd_115⟩
theorem fp_X7_154 : zFp RX7 154 4 2 .int false := ⟨RX4, TX4, 8, tyX4, rfl, zin4, by decide, wd_115, tyX4_ok, nmX4, by decide +kernel, rfl, fun h => absurd h (by decide)⟩
theorem fl_X1_59 : zFl RX1 59 4 2 := ⟨RX4, TX4, 8, rfl, zin4, by decide, wd_116⟩
theorem fp_X1_59 : zFp RX1 59 4 2 .int false := ⟨RX4, TX4, 8, tyX4, rfl, zin4, by decide, wd_116, tyX4_ok, nmX4, by decide +kernel, rfl, fun h => absurd h (by decide)⟩
theorem fl_X4_21 : zFl RX4 21 4 3 := ⟨RX4, TX4, 8, rfl, zin4, by decide, wd_117⟩
theorem fp_X4_21 : zFp RX4 21 4 3 .int false := ⟨RX4, TX4, 8, tyX4, rfl, zin4, by decide, wd_117, tyX4_ok, nmX4, by decide +kernel, rfl, fun h => absurd h (by decide)⟩
theorem fl_X7_159 : zFl RX7 159 4 3 := ⟨RX4, TX4, 8, rfl, zin4, by decide, wd_118⟩
theorem fp_X7_159 : zFp RX7 159 4 3 .int false := ⟨RX4, TX4, 8, tyX4, rfl, zin4, by decide, wd_118, tyX4_ok, nmX4, by decide +kernel, rfl, fun h => absurd h (by decide)⟩
theorem fl_X4_24 : zFl RX4 24 4 4 := ⟨RX4, TX4, 8, rfl, zin4, by decide, wd_119⟩
theorem fp_X4_24 : zFp RX4 24 4 4 .int false := ⟨RX4, TX4, 8, tyX4, rfl, zin4, by decide, wd_119, tyX4_ok, nmX4, by decide +kernel, rfl, fun h => absurd h (by decide)⟩
theorem fl_X1_53 : zFl RX1 53 4 4 := ⟨RX4, TX4, 8, rfl, zin4, by decide, wd_120⟩
theorem fp_X1_53 : zFp RX1 53 4 4 .int false := ⟨RX4, TX4, 8, tyX4, rfl, zin4, by decide, wd_120, tyX4_ok, nmX4, by decide +kernel, rfl, fun h => absurd h (by decide)⟩
theorem fl_X7_169 : zFl RX7 169 4 4 := ⟨RX4, TX4, 8, rfl, zin4, by decide, wd_121⟩
theorem fp_X7_169 : zFp RX7 169 4 4 .int false := ⟨RX4, TX4, 8, tyX4, rfl, zin4, by decide, wd_121, tyX4_ok, nmX4, by decide +kernel, rfl, fun h => absurd h (by decide)⟩
theorem fl_X4_27 : zFl RX4 27 4 5 := ⟨RX4, TX4, 8, rfl, zin4, by decide, wd_122⟩
theorem fp_X4_27 : zFp RX4 27 4 5 .int false := ⟨RX4, TX4, 8, tyX4, rfl, zin4, by decide, wd_122, tyX4_ok, nmX4, by decide +kernel, rfl, fun h => absurd h (by decide)⟩
theorem fl_X4_30 : zFl RX4 30 4 6 := ⟨RX4, TX4, 8, rfl, zin4, by decide, wd_123⟩
theorem fp_X4_30 : zFp RX4 30 4 6 .int false := ⟨RX4, TX4, 8, tyX4, rfl, zin4, by decide, wd_123, tyX4_ok, nmX4, by decide +kernel, rfl, fun h => absurd h (by decide)⟩
theorem fl_X4_33 : zFl RX4 33 4 7 := ⟨RX4, TX4, 8, rfl, zin4, by decide, wd_124⟩
theorem fp_X4_33 : zFp RX4 33 4 7 .int false := ⟨RX4, TX4, 8, tyX4, rfl, zin4, by decide, wd_124, tyX4_ok, nmX4, by decide +kernel, rfl, fun h => absurd h (by decide)⟩
theorem fl_X3_9 : zFl RX3 9 3 0 := ⟨RX3, TX3, 6, rfl, zin3, by decide, wd_142⟩
theorem fp_X3_9 : zFp RX3 9 3 0 .int false := ⟨RX3, TX3, 6, tyX3, rfl, zin3, by decide, wd_142, tyX3_ok, nmX3, by decide +kernel, rfl, fun h => absurd h (by decide)⟩
theorem fl_X5_61 : zFl RX5 61 3 0 := ⟨RX3, TX3, 6, rfl, zin3, by decide, wd_143⟩
theorem fp_X5_61 : zFp RX5 61 3 0 .int false := ⟨RX3, TX3, 6, tyX3, rfl, zin3, by decide, wd_143, tyX3_ok, nmX3, by decide +kernel, rfl, fun h => absurd h (by decide)⟩
theorem fl_X7_236 : zFl RX7 236 3 0 := ⟨RX3, TX3, 6, rfl, zin3, by decide, wd_144⟩
theorem fp_X7_236 : zFp RX7 236 3 0 .int false := ⟨RX3, TX3, 6, tyX3, rfl, zin3, by decide, wd_144, tyX3_ok, nmX3, by decide +kernel, rfl, fun h => absurd h (by decide)⟩
theorem fl_X3_15 : zFl RX3 15 3 1 := ⟨RX3, TX3, 6, rfl, zin3, by decide, wd_145⟩
theorem fp_X3_15 : zFp RX3 15 3 1 .int false := ⟨RX3, TX3, 6, tyX3, rfl, zin3, by decide, wd_145, tyX3_ok, nmX3, by decide +kernel, rfl, fun h => absurd h (by decide)⟩
theorem fl_X5_64 : zFl RX5 64 3 1 := ⟨RX3, TX3, 6, rfl, zin3, by decide, wd_146⟩
theorem fp_X5_64 : zFp RX5 64 3 1 .int false := ⟨RX3, TX3, 6, tyX3, rfl, zin3, by decide, wd_146, tyX3_ok, nmX3, by decide +kernel, rfl, fun h => absurd h (by decide)⟩
theorem fl_X7_178 : zFl RX7 178 3 1 := ⟨RX3, TX3, 6, rfl, zin3, by decide, wd_147⟩
theorem fp_X7_178 : zFp RX7 178 3 1 .int false := ⟨RX3, TX3, 6, tyX3, rfl, zin3, by decide, wd_147, tyX3_ok, nmX3, by decide +kernel, rfl, fun h => absurd h (by decide)⟩
theorem fl_X3_18 : zFl RX3 18 3 2 := ⟨RX3, TX3, 6, rfl, zin3, by decide, wd_148⟩
theorem fp_X3_18 : zFp RX3 18 3 2 .int false := ⟨RX3, TX3, 6, tyX3, rfl, zin3, by decide, wd_148, tyX3_ok, nmX3, by decide +kernel, rfl, fun h => absurd h (by decide)⟩
theorem fl_X5_39 : zFl RX5 39 3 2 := ⟨RX3, TX3, 6, rfl, zin3, by decide, wd_149⟩
theorem fp_X5_39 : zFp RX5 39 3 2 .int false := ⟨RX3, TX3, 6, tyX3, rfl, zin3, by decide, wd_149, tyX3_ok, nmX3, by decide +kernel, rfl, fun h => absurd h (by decide)⟩
theorem fl_X2_29 : zFl RX2 29 3 2 := ⟨RX3, TX3, 6, rfl, zin3, by decide, wd_150⟩
theorem fp_X2_29 : zFp RX2 29 3 2 .int false := ⟨RX3, TX3, 6, tyX3, rfl, zin3, by decide, wd_150, tyX3_ok, nmX3, by decide +kernel, rfl, fun h => absurd h (by decide)⟩
theorem fl_X7_264 : zFl RX7 264 3 2 := ⟨RX3, TX3, 6, rfl, zin3, by decide, wd_151⟩
theorem fp_X7_264 : zFp RX7 264 3 2 .int false := ⟨RX3, TX3, 6, tyX3, rfl, zin3, by decide, wd_151, tyX3_ok, nmX3, by decide +kernel, rfl, fun h => absurd h (by decide)⟩
theorem fl_X3_21 : zFl RX3 21 3 3 := ⟨RX3, TX3, 6, rfl, zin3, by decide, wd_152⟩
theorem fp_X3_21 : zFp RX3 21 3 3 .int false := ⟨RX3, TX3, 6, tyX3, rfl, zin3, by decide, wd_152, tyX3_ok, nmX3, by decide +kernel, rfl, fun h => absurd h (by decide)⟩
theorem fl_X5_44 : zFl RX5 44 3 3 := ⟨RX3, TX3, 6, rfl, zin3, by decide, wd_153⟩
theorem fp_X5_44 : zFp RX5 44 3 3 .int false := ⟨RX3, TX3, 6, tyX3, rfl, zin3, by decide, wd_153, tyX3_ok, nmX3, by decide +kernel, rfl, fun h => absurd h (by decide)⟩
theorem fl_X7_138 : zFl RX7 138 3 3 := ⟨RX3, TX3, 6, rfl, zin3, by decide, wd_154⟩
theorem fp_X7_138 : zFp RX7 138 3 3 .int false := ⟨RX3, TX3, 6, tyX3, rfl, zin3, by decide, wd_154, tyX3_ok, nmX3, by decide +kernel, rfl, fun h => absurd h (by decide)⟩
theorem fl_X3_26 : zFl RX3 26 3 4 := ⟨RX3, TX3, 6, rfl, zin3, by decide, wd_155⟩
theorem fp_X3_26 : zFp RX3 26 3 4 (.array (.object "YoungerBack$Way")) true := ⟨RX3, TX3, 6, tyX3, rfl, zin3, by decide, wd_155, tyX3_ok, nmX3, by decide +kernel, rfl, fun _ => rfl⟩
theorem fl_X5_89 : zFl RX5 89 3 4 := ⟨RX3, TX3, 6, rfl, zin3, by decide, wd_156⟩
theorem fl_X2_34 : zFl RX2 34 3 4 := ⟨RX3, TX3, 6, rfl, zin3, by decide, wd_157⟩
theorem fl_X7_268 : zFl RX7 268 3 4 := ⟨RX3, TX3, 6, rfl, zin3, by decide, wd_158⟩
theorem fl_X3_32 : zFl RX3 32 3 5 := ⟨RX3, TX3, 6, rfl, zin3, by decide, wd_159⟩
theorem fp_X3_32 : zFp RX3 32 3 5 (.array (.object "YoungerBack$Person")) true := ⟨RX3, TX3, 6, tyX3, rfl, zin3, by decide, wd_159, tyX3_ok, nmX3, by decide +kernel, rfl, fun _ => rfl⟩
theorem fl_X0_29 : zFl RX0 29 3 5 := ⟨RX3, TX3, 6, rfl, zin3, by decide, wd_160⟩
theorem fl_X5_111 : zFl RX5 111 3 5 := ⟨RX3, TX3, 6, rfl, zin3, by decide, wd_161⟩
theorem fl_X7_150 : zFl RX7 150 3 5 := ⟨RX3, TX3, 6, rfl, zin3, by decide, wd_162⟩
theorem fl_X0_11 : zFl RX0 11 0 0 := ⟨RX0, TX0, 3, rfl, zin0, by decide, wd_185⟩
theorem fp_X0_11 : zFp RX0 11 0 0 (.array (.object "YoungerBack$Person")) true := ⟨RX0, TX0, 3, tyX0, rfl, zin0, by decide, wd_185, tyX0_ok, nmX0, by decide +kernel, rfl, fun _ => rfl⟩
theorem fl_X0_17 : zFl RX0 17 0 1 := ⟨RX0, TX0, 3, rfl, zin0, by decide, wd_186⟩
theorem fp_X0_17 : zFp RX0 17 0 1 .int false := ⟨RX0, TX0, 3, tyX0, rfl, zin0, by decide, wd_186, tyX0_ok, nmX0, by decide +kernel, rfl, fun h => absurd h (by decide)⟩
theorem fl_X0_21 : zFl RX0 21 0 2 := ⟨RX0, TX0, 3, rfl, zin0, by decide, wd_187⟩
theorem fp_X0_21 : zFp RX0 21 0 2 .int false := ⟨RX0, TX0, 3, tyX0, rfl, zin0, by decide, wd_187, tyX0_ok, nmX0, by decide +kernel, rfl, fun h => absurd h (by decide)⟩
theorem fl_X7_187 : zFl RX7 187 0 2 := ⟨RX0, TX0, 3, rfl, zin0, by decide, wd_188⟩
theorem fp_X7_187 : zFp RX7 187 0 2 .int false := ⟨RX0, TX0, 3, tyX0, rfl, zin0, by decide, wd_188, tyX0_ok, nmX0, by decide +kernel, rfl, fun h => absurd h (by decide)⟩
theorem fl_X2_9 : zFl RX2 9 2 0 := ⟨RX2, TX2, 1, rfl, zin2, by decide, wd_203⟩
theorem fp_X2_9 : zFp RX2 9 2 0 (.array .long) true := ⟨RX2, TX2, 1, tyX2, rfl, zin2, by decide, wd_203, tyX2_ok, nmX2, by decide +kernel, rfl, fun _ => rfl⟩
theorem fl_X1_9 : zFl RX1 9 1 0 := ⟨RX1, TX1, 2, rfl, zin1, by decide, wd_214⟩
theorem fp_X1_9 : zFp RX1 9 1 0 (.array .int) true := ⟨RX1, TX1, 2, tyX1, rfl, zin1, by decide, wd_214, tyX1_ok, nmX1, by decide +kernel, rfl, fun _ => rfl⟩
theorem fl_X7_258 : zFl RX7 258 1 0 := ⟨RX1, TX1, 2, rfl, zin1, by decide, wd_215⟩
theorem fl_X1_15 : zFl RX1 15 1 1 := ⟨RX1, TX1, 2, rfl, zin1, by decide, wd_216⟩
theorem fp_X1_15 : zFp RX1 15 1 1 .int false := ⟨RX1, TX1, 2, tyX1, rfl, zin1, by decide, wd_216, tyX1_ok, nmX1, by decide +kernel, rfl, fun h => absurd h (by decide)⟩
theorem fl_X7_249 : zFl RX7 249 1 1 := ⟨RX1, TX1, 2, rfl, zin1, by decide, wd_217⟩
theorem fp_X7_249 : zFp RX7 249 1 1 .int false := ⟨RX1, TX1, 2, tyX1, rfl, zin1, by decide, wd_217, tyX1_ok, nmX1, by decide +kernel, rfl, fun h => absurd h (by decide)⟩
theorem fl_X7_11 : zFl RX7 11 7 0 := ⟨RX7, TX7, 15, rfl, zin7, by decide, wd_223⟩
theorem fp_X7_11 : zFp RX7 11 7 0 (.array (.array .int)) true := ⟨RX7, TX7, 15, tyX7, rfl, zin7, by decide, wd_223, tyX7_ok, nmX7, by decide +kernel, rfl, fun _ => rfl⟩
theorem fl_X7_14 : zFl RX7 14 7 1 := ⟨RX7, TX7, 15, rfl, zin7, by decide, wd_224⟩
theorem fp_X7_14 : zFp RX7 14 7 1 (.array .int) true := ⟨RX7, TX7, 15, tyX7, rfl, zin7, by decide, wd_224, tyX7_ok, nmX7, by decide +kernel, rfl, fun _ => rfl⟩
theorem fl_X7_18 : zFl RX7 18 7 2 := ⟨RX7, TX7, 15, rfl, zin7, by decide, wd_225⟩
theorem fp_X7_18 : zFp RX7 18 7 2 (.array .int) true := ⟨RX7, TX7, 15, tyX7, rfl, zin7, by decide, wd_225, tyX7_ok, nmX7, by decide +kernel, rfl, fun _ => rfl⟩
theorem fl_X7_21 : zFl RX7 21 7 3 := ⟨RX7, TX7, 15, rfl, zin7, by decide, wd_226⟩
theorem fp_X7_21 : zFp RX7 21 7 3 .int false := ⟨RX7, TX7, 15, tyX7, rfl, zin7, by decide, wd_226, tyX7_ok, nmX7, by decide +kernel, rfl, fun h => absurd h (by decide)⟩
theorem fl_X7_28 : zFl RX7 28 7 4 := ⟨RX7, TX7, 15, rfl, zin7, by decide, wd_227⟩
theorem fp_X7_28 : zFp RX7 28 7 4 (.object "YoungerBack$Tape") true := ⟨RX7, TX7, 15, tyX7, rfl, zin7, by decide, wd_227, tyX7_ok, nmX7, by decide +kernel, rfl, fun _ => rfl⟩
theorem fl_X7_32 : zFl RX7 32 7 5 := ⟨RX7, TX7, 15, rfl, zin7, by decide, wd_228⟩
theorem fp_X7_32 : zFp RX7 32 7 5 .int false := ⟨RX7, TX7, 15, tyX7, rfl, zin7, by decide, wd_228, tyX7_ok, nmX7, by decide +kernel, rfl, fun h => absurd h (by decide)⟩
theorem fl_X7_35 : zFl RX7 35 7 6 := ⟨RX7, TX7, 15, rfl, zin7, by decide, wd_229⟩
theorem fp_X7_35 : zFp RX7 35 7 6 .boolean false := ⟨RX7, TX7, 15, tyX7, rfl, zin7, by decide, wd_229, tyX7_ok, nmX7, by decide +kernel, rfl, fun h => absurd h (by decide)⟩
theorem fl_X7_42 : zFl RX7 42 7 7 := ⟨RX7, TX7, 15, rfl, zin7, by decide, wd_230⟩
theorem fp_X7_42 : zFp RX7 42 7 7 (.object "YoungerBack$League") true := ⟨RX7, TX7, 15, tyX7, rfl, zin7, by decide, wd_230, tyX7_ok, nmX7, by decide +kernel, rfl, fun _ => rfl⟩
theorem fl_X7_46 : zFl RX7 46 7 8 := ⟨RX7, TX7, 15, rfl, zin7, by decide, wd_231⟩
theorem fp_X7_46 : zFp RX7 46 7 8 (.object "YoungerBack$League") true := ⟨RX7, TX7, 15, tyX7, rfl, zin7, by decide, wd_231, tyX7_ok, nmX7, by decide +kernel, rfl, fun _ => rfl⟩
theorem fl_X7_49 : zFl RX7 49 7 9 := ⟨RX7, TX7, 15, rfl, zin7, by decide, wd_232⟩
theorem fp_X7_49 : zFp RX7 49 7 9 (.array (.object "YoungerBack$League")) true := ⟨RX7, TX7, 15, tyX7, rfl, zin7, by decide, wd_232, tyX7_ok, nmX7, by decide +kernel, rfl, fun _ => rfl⟩
theorem fl_X7_53 : zFl RX7 53 7 10 := ⟨RX7, TX7, 15, rfl, zin7, by decide, wd_233⟩
theorem fp_X7_53 : zFp RX7 53 7 10 (.array .boolean) true := ⟨RX7, TX7, 15, tyX7, rfl, zin7, by decide, wd_233, tyX7_ok, nmX7, by decide +kernel, rfl, fun _ => rfl⟩
theorem fl_X7_60 : zFl RX7 60 7 11 := ⟨RX7, TX7, 15, rfl, zin7, by decide, wd_234⟩
theorem fp_X7_60 : zFp RX7 60 7 11 (.object "YoungerBack$Acts") true := ⟨RX7, TX7, 15, tyX7, rfl, zin7, by decide, wd_234, tyX7_ok, nmX7, by decide +kernel, rfl, fun _ => rfl⟩
theorem fl_X7_67 : zFl RX7 67 7 12 := ⟨RX7, TX7, 15, rfl, zin7, by decide, wd_235⟩
theorem fp_X7_67 : zFp RX7 67 7 12 (.object "YoungerBack$Foretold") true := ⟨RX7, TX7, 15, tyX7, rfl, zin7, by decide, wd_235, tyX7_ok, nmX7, by decide +kernel, rfl, fun _ => rfl⟩
theorem fl_X7_71 : zFl RX7 71 7 13 := ⟨RX7, TX7, 15, rfl, zin7, by decide, wd_236⟩
theorem fp_X7_71 : zFp RX7 71 7 13 (.object "YoungerBack$Foretold") true := ⟨RX7, TX7, 15, tyX7, rfl, zin7, by decide, wd_236, tyX7_ok, nmX7, by decide +kernel, rfl, fun _ => rfl⟩
theorem fl_X7_77 : zFl RX7 77 7 14 := ⟨RX7, TX7, 15, rfl, zin7, by decide, wd_237⟩
theorem fp_X7_77 : zFp RX7 77 7 14 (.object "YoungerBack$Asking") true := ⟨RX7, TX7, 15, tyX7, rfl, zin7, by decide, wd_237, tyX7_ok, nmX7, by decide +kernel, rfl, fun _ => rfl⟩
theorem fl_X8_48 : zFl RX8 48 8 0 := ⟨RX8, TX8, 25, rfl, zin8, by decide, wd_743⟩
theorem fp_X8_48 : zFp RX8 48 8 0 .int false := ⟨RX8, TX8, 25, tyX8, rfl, zin8, by decide, wd_743, tyX8_ok, nmX8, by decide +kernel, rfl, fun h => absurd h (by decide)⟩
theorem fl_X8_52 : zFl RX8 52 8 1 := ⟨RX8, TX8, 25, rfl, zin8, by decide, wd_744⟩
theorem fp_X8_52 : zFp RX8 52 8 1 .int false := ⟨RX8, TX8, 25, tyX8, rfl, zin8, by decide, wd_744, tyX8_ok, nmX8, by decide +kernel, rfl, fun h => absurd h (by decide)⟩
theorem fl_X8_7 : zFl RX8 7 8 2 := ⟨RX8, TX8, 25, rfl, zin8, by decide, wd_745⟩
theorem fp_X8_7 : zFp RX8 7 8 2 (.array .int) true := ⟨RX8, TX8, 25, tyX8, rfl, zin8, by decide, wd_745, tyX8_ok, nmX8, by decide +kernel, rfl, fun _ => rfl⟩
theorem fl_X8_13 : zFl RX8 13 8 3 := ⟨RX8, TX8, 25, rfl, zin8, by decide, wd_746⟩
theorem fp_X8_13 : zFp RX8 13 8 3 (.array .int) true := ⟨RX8, TX8, 25, tyX8, rfl, zin8, by decide, wd_746, tyX8_ok, nmX8, by decide +kernel, rfl, fun _ => rfl⟩
theorem fl_X8_16 : zFl RX8 16 8 4 := ⟨RX8, TX8, 25, rfl, zin8, by decide, wd_747⟩
theorem fp_X8_16 : zFp RX8 16 8 4 (.array .int) true := ⟨RX8, TX8, 25, tyX8, rfl, zin8, by decide, wd_747, tyX8_ok, nmX8, by decide +kernel, rfl, fun _ => rfl⟩
theorem fl_X8_19 : zFl RX8 19 8 5 := ⟨RX8, TX8, 25, rfl, zin8, by decide, wd_748⟩
theorem fp_X8_19 : zFp RX8 19 8 5 (.array .int) true := ⟨RX8, TX8, 25, tyX8, rfl, zin8, by decide, wd_748, tyX8_ok, nmX8, by decide +kernel, rfl, fun _ => rfl⟩
theorem fl_X8_22 : zFl RX8 22 8 6 := ⟨RX8, TX8, 25, rfl, zin8, by decide, wd_749⟩
theorem fp_X8_22 : zFp RX8 22 8 6 (.array .int) true := ⟨RX8, TX8, 25, tyX8, rfl, zin8, by decide, wd_749, tyX8_ok, nmX8, by decide +kernel, rfl, fun _ => rfl⟩
theorem fl_X8_25 : zFl RX8 25 8 7 := ⟨RX8, TX8, 25, rfl, zin8, by decide, wd_750⟩
theorem fp_X8_25 : zFp RX8 25 8 7 (.array .int) true := ⟨RX8, TX8, 25, tyX8, rfl, zin8, by decide, wd_750, tyX8_ok, nmX8, by decide +kernel, rfl, fun _ => rfl⟩
theorem fl_X8_175 : zFl RX8 175 8 8 := ⟨RX8, TX8, 25, rfl, zin8, by decide, wd_751⟩
theorem fp_X8_175 : zFp RX8 175 8 8 .int false := ⟨RX8, TX8, 25, tyX8, rfl, zin8, by decide, wd_751, tyX8_ok, nmX8, by decide +kernel, rfl, fun h => absurd h (by decide)⟩
theorem fl_X8_28 : zFl RX8 28 8 9 := ⟨RX8, TX8, 25, rfl, zin8, by decide, wd_752⟩
theorem fp_X8_28 : zFp RX8 28 8 9 (.array .int) true := ⟨RX8, TX8, 25, tyX8, rfl, zin8, by decide, wd_752, tyX8_ok, nmX8, by decide +kernel, rfl, fun _ => rfl⟩
theorem fl_X8_75 : zFl RX8 75 8 10 := ⟨RX8, TX8, 25, rfl, zin8, by decide, wd_753⟩
theorem fp_X8_75 : zFp RX8 75 8 10 .int false := ⟨RX8, TX8, 25, tyX8, rfl, zin8, by decide, wd_753, tyX8_ok, nmX8, by decide +kernel, rfl, fun h => absurd h (by decide)⟩
theorem fl_X8_171 : zFl RX8 171 8 11 := ⟨RX8, TX8, 25, rfl, zin8, by decide, wd_754⟩
theorem fp_X8_171 : zFp RX8 171 8 11 .int false := ⟨RX8, TX8, 25, tyX8, rfl, zin8, by decide, wd_754, tyX8_ok, nmX8, by decide +kernel, rfl, fun h => absurd h (by decide)⟩
theorem fl_X8_81 : zFl RX8 81 8 12 := ⟨RX8, TX8, 25, rfl, zin8, by decide, wd_755⟩
theorem fp_X8_81 : zFp RX8 81 8 12 .int false := ⟨RX8, TX8, 25, tyX8, rfl, zin8, by decide, wd_755, tyX8_ok, nmX8, by decide +kernel, rfl, fun h => absurd h (by decide)⟩
theorem fl_X8_85 : zFl RX8 85 8 13 := ⟨RX8, TX8, 25, rfl, zin8, by decide, wd_756⟩
theorem fp_X8_85 : zFp RX8 85 8 13 .int false := ⟨RX8, TX8, 25, tyX8, rfl, zin8, by decide, wd_756, tyX8_ok, nmX8, by decide +kernel, rfl, fun h => absurd h (by decide)⟩
theorem fl_X8_94 : zFl RX8 94 8 14 := ⟨RX8, TX8, 25, rfl, zin8, by decide, wd_757⟩
theorem fp_X8_94 : zFp RX8 94 8 14 .int false := ⟨RX8, TX8, 25, tyX8, rfl, zin8, by decide, wd_757, tyX8_ok, nmX8, by decide +kernel, rfl, fun h => absurd h (by decide)⟩
theorem fl_X8_91 : zFl RX8 91 8 15 := ⟨RX8, TX8, 25, rfl, zin8, by decide, wd_758⟩
theorem fp_X8_91 : zFp RX8 91 8 15 .int false := ⟨RX8, TX8, 25, tyX8, rfl, zin8, by decide, wd_758, tyX8_ok, nmX8, by decide +kernel, rfl, fun h => absurd h (by decide)⟩
theorem fl_X8_103 : zFl RX8 103 8 16 := ⟨RX8, TX8, 25, rfl, zin8, by decide, wd_759⟩
theorem fp_X8_103 : zFp RX8 103 8 16 .int false := ⟨RX8, TX8, 25, tyX8, rfl, zin8, by decide, wd_759, tyX8_ok, nmX8, by decide +kernel, rfl, fun h => absurd h (by decide)⟩
theorem fl_X8_106 : zFl RX8 106 8 17 := ⟨RX8, TX8, 25, rfl, zin8, by decide, wd_760⟩
theorem fp_X8_106 : zFp RX8 106 8 17 .int false := ⟨RX8, TX8, 25, tyX8, rfl, zin8, by decide, wd_760, tyX8_ok, nmX8, by decide +kernel, rfl, fun h => absurd h (by decide)⟩
theorem fl_X8_112 : zFl RX8 112 8 18 := ⟨RX8, TX8, 25, rfl, zin8, by decide, wd_761⟩
theorem fp_X8_112 : zFp RX8 112 8 18 .int false := ⟨RX8, TX8, 25, tyX8, rfl, zin8, by decide, wd_761, tyX8_ok, nmX8, by decide +kernel, rfl, fun h => absurd h (by decide)⟩
theorem fl_X8_31 : zFl RX8 31 8 19 := ⟨RX8, TX8, 25, rfl, zin8, by decide, wd_762⟩
theorem fp_X8_31 : zFp RX8 31 8 19 (.array .long) true := ⟨RX8, TX8, 25, tyX8, rfl, zin8, by decide, wd_762, tyX8_ok, nmX8, by decide +kernel, rfl, fun _ => rfl⟩
theorem fl_X8_35 : zFl RX8 35 8 20 := ⟨RX8, TX8, 25, rfl, zin8, by decide, wd_763⟩
theorem fp_X8_35 : zFp RX8 35 8 20 (.array .long) true := ⟨RX8, TX8, 25, tyX8, rfl, zin8, by decide, wd_763, tyX8_ok, nmX8, by decide +kernel, rfl, fun _ => rfl⟩
theorem fl_X8_38 : zFl RX8 38 8 21 := ⟨RX8, TX8, 25, rfl, zin8, by decide, wd_764⟩
theorem fp_X8_38 : zFp RX8 38 8 21 (.array .boolean) true := ⟨RX8, TX8, 25, tyX8, rfl, zin8, by decide, wd_764, tyX8_ok, nmX8, by decide +kernel, rfl, fun _ => rfl⟩
theorem fl_X8_42 : zFl RX8 42 8 22 := ⟨RX8, TX8, 25, rfl, zin8, by decide, wd_765⟩
theorem fp_X8_42 : zFp RX8 42 8 22 (.array .int) true := ⟨RX8, TX8, 25, tyX8, rfl, zin8, by decide, wd_765, tyX8_ok, nmX8, by decide +kernel, rfl, fun _ => rfl⟩
theorem fl_X8_45 : zFl RX8 45 8 23 := ⟨RX8, TX8, 25, rfl, zin8, by decide, wd_766⟩
theorem fp_X8_45 : zFp RX8 45 8 23 (.array .int) true := ⟨RX8, TX8, 25, tyX8, rfl, zin8, by decide, wd_766, tyX8_ok, nmX8, by decide +kernel, rfl, fun _ => rfl⟩
theorem fl_X8_243 : zFl RX8 243 8 24 := ⟨RX8, TX8, 25, rfl, zin8, by decide, wd_767⟩
theorem fp_X8_243 : zFp RX8 243 8 24 .int false := ⟨RX8, TX8, 25, tyX8, rfl, zin8, by decide, wd_767, tyX8_ok, nmX8, by decide +kernel, rfl, fun h => absurd h (by decide)⟩
