theorem tw_of {w : Cond} {i : Nat} (h : tables_1[i]? = some w) (hg : goodWord w = true) : w ∈ Tw := List.mem_filter.mpr ⟨List.mem_append_right _ (List.mem_of_getElem? h), hg⟩
theorem tw_sel {q : MethodName × Nat} {i : Nat} (h : lw_privs[i]? = some q) : Cond.selects q.1.cls q.1 q.1 ∈ Tw := List.mem_filter.mpr ⟨List.mem_append_left _ (List.mem_map.mpr ⟨q, List.mem_of_getElem? h, rfl⟩), rfl⟩
abbrev kX5_init : Mth := (yX5_init, cX5_init, 2, none)
abbrev kX0_init : Mth := (yX0_init, cX0_init, 2, none)
abbrev kX4_init : Mth := (yX4_init, cX4_init, 1, none)
abbrev kX2_init : Mth := (yX2_init, cX2_init, 1, none)
abbrev kX1_init : Mth := (yX1_init, cX1_init, 1, none)
abbrev kX5_field : Mth := (yX5_field, cX5_field, 2, (some .int))
abbrev kX5_isRough : Mth := (yX5_isRough, cX5_isRough, 1, (some .boolean))
abbrev kX5_tell : Mth := (yX5_tell, cX5_tell, 3, (some .int))
abbrev kX0_addField : Mth := (yX0_addField, cX0_addField, 4, (some .int))
abbrev kX5_wayOf : Mth := (yX5_wayOf, cX5_wayOf, 2, (some .int))
abbrev kX5_of : Mth := (yX5_of, cX5_of, 3, (some .int))
abbrev kX0_hasField : Mth := (yX0_hasField, cX0_hasField, 2, (some .boolean))
abbrev kX0_roughOf : Mth := (yX0_roughOf, cX0_roughOf, 2, (some .int))
abbrev kX0_gluedSidesOf : Mth := (yX0_gluedSidesOf, cX0_gluedSidesOf, 4, (some .int))
abbrev kX0_isFree : Mth := (yX0_isFree, cX0_isFree, 2, (some .boolean))
abbrev kX0_gluedTo : Mth := (yX0_gluedTo, cX0_gluedTo, 2, (some .int))
abbrev kX0_ways : Mth := (yX0_ways, cX0_ways, 1, (some .int))
abbrev kX0_walkersOn : Mth := (yX0_walkersOn, cX0_walkersOn, 4, (some .int))
abbrev kX5_fieldOf : Mth := (yX5_fieldOf, cX5_fieldOf, 1, (some .int))
abbrev kX5_rough : Mth := (yX5_rough, cX5_rough, 4, (some .int))
abbrev kX0_makeRough : Mth := (yX0_makeRough, cX0_makeRough, 3, none)
abbrev kX5_glue : Mth := (yX5_glue, cX5_glue, 7, (some .int))
abbrev kX0_hasWay : Mth := (yX0_hasWay, cX0_hasWay, 3, (some .boolean))
abbrev kX0_join : Mth := (yX0_join, cX0_join, 3, none)
abbrev kX5_cut : Mth := (yX5_cut, cX5_cut, 5, (some .int))
abbrev kX0_sever : Mth := (yX0_sever, cX0_sever, 3, none)
abbrev kX5_over : Mth := (yX5_over, cX5_over, 3, (some .int))
abbrev kX5_numberOrNone : Mth := (yX5_numberOrNone, cX5_numberOrNone, 2, (some .int))
abbrev kX5_walker : Mth := (yX5_walker, cX5_walker, 4, (some .int))
abbrev kX5_isKind : Mth := (yX5_isKind, cX5_isKind, 1, (some .boolean))
abbrev kX0_addWalker : Mth := (yX0_addWalker, cX0_addWalker, 3, (some .int))
abbrev kX4_begin : Mth := (yX4_begin, cX4_begin, 3, none)
abbrev kX5_its : Mth := (yX5_its, cX5_its, 4, (some .int))
abbrev kX0_hasWalker : Mth := (yX0_hasWalker, cX0_hasWalker, 2, (some .boolean))
abbrev kX5_headingOf : Mth := (yX5_headingOf, cX5_headingOf, 1, (some .int))
abbrev kX4_payOf : Mth := (yX4_payOf, cX4_payOf, 2, (some .int))
abbrev kX4_above : Mth := (yX4_above, cX4_above, 1, (some .int))
abbrev kX5_place : Mth := (yX5_place, cX5_place, 6, (some .int))
abbrev kX5_turn : Mth := (yX5_turn, cX5_turn, 5, (some .int))
abbrev kX5_as : Mth := (yX5_as, cX5_as, 4, (some .int))
abbrev kX4_isUnder : Mth := (yX4_isUnder, cX4_isUnder, 4, (some .boolean))
abbrev kX5_step : Mth := (yX5_step, cX5_step, 3, (some .int))
abbrev kX4_move : Mth := (yX4_move, cX4_move, 4, none)
abbrev kX0_goOn : Mth := (yX0_goOn, cX0_goOn, 3, (some .int))
abbrev kX5_turned : Mth := (yX5_turned, cX5_turned, 2, (some .int))
abbrev kX4_quartersAtBump : Mth := (yX4_quartersAtBump, cX4_quartersAtBump, 1, (some .int))
abbrev kX4_quartersOnComing : Mth := (yX4_quartersOnComing, cX4_quartersOnComing, 3, (some .int))
abbrev kX5_steps : Mth := (yX5_steps, cX5_steps, 3, (some .int))
abbrev kX4_moveOften : Mth := (yX4_moveOften, cX4_moveOften, 4, none)
abbrev kX0_milesOfAll : Mth := (yX0_milesOfAll, cX0_milesOfAll, 3, (some .int))
abbrev kX5_on : Mth := (yX5_on, cX5_on, 4, (some .int))
abbrev kX5_isStepsOn : Mth := (yX5_isStepsOn, cX5_isStepsOn, 1, (some .boolean))
abbrev kX4_become : Mth := (yX4_become, cX4_become, 2, none)
abbrev kX5_when : Mth := (yX5_when, cX5_when, 4, (some .int))
abbrev kX5_back : Mth := (yX5_back, cX5_back, 4, (some .int))
abbrev kX5_meet : Mth := (yX5_meet, cX5_meet, 4, (some .int))
abbrev kX5_spares : Mth := (yX5_spares, cX5_spares, 5, (some .int))
abbrev kX5_closes : Mth := (yX5_closes, cX5_closes, 6, (some .int))
abbrev kX5_bumps : Mth := (yX5_bumps, cX5_bumps, 5, (some .int))
abbrev kX5_square : Mth := (yX5_square, cX5_square, 7, (some .int))
abbrev kX0_goOnOften : Mth := (yX0_goOnOften, cX0_goOnOften, 5, (some .int))
abbrev kX5_dine : Mth := (yX5_dine, cX5_dine, 8, (some .int))
abbrev kX5_sees : Mth := (yX5_sees, cX5_sees, 3, (some .int))
abbrev kX0_seenFrom : Mth := (yX0_seenFrom, cX0_seenFrom, 5, (some .int))
abbrev kX5_twice : Mth := (yX5_twice, cX5_twice, 6, (some .int))
abbrev kJ6_bitCount_0f7a4 : Mth := (yJ6_bitCount_0f7a4, cJ6_bitCount_0f7a4, 1, (some .int))
abbrev kX5_about : Mth := (yX5_about, cX5_about, 5, (some .int))
abbrev kX0_roundCorner : Mth := (yX0_roundCorner, cX0_roundCorner, 7, (some .long))
abbrev kJ13_bitCount_95d88 : Mth := (yJ13_bitCount_95d88, cJ13_bitCount_95d88, 2, (some .int))
abbrev kX5_corners : Mth := (yX5_corners, cX5_corners, 1, (some .int))
abbrev kX0_sumOfCorners : Mth := (yX0_sumOfCorners, cX0_sumOfCorners, 9, (some .int))
abbrev kX5_excess : Mth := (yX5_excess, cX5_excess, 1, (some .int))
abbrev kX5_bent : Mth := (yX5_bent, cX5_bent, 5, (some .int))
abbrev kX5_parts : Mth := (yX5_parts, cX5_parts, 4, (some .int))
abbrev kX0_spread : Mth := (yX0_spread, cX0_spread, 9, none)
abbrev kJ7_fill_53178 : Mth := (yJ7_fill_53178, cJ7_fill_53178, 4, none)
abbrev kX0_lower : Mth := (yX0_lower, cX0_lower, 3, (some .boolean))
abbrev kX5_reached : Mth := (yX5_reached, cX5_reached, 4, (some .int))
abbrev kX5_far : Mth := (yX5_far, cX5_far, 3, (some .int))
abbrev kX5_least : Mth := (yX5_least, cX5_least, 5, (some .int))
abbrev kX5_smooth : Mth := (yX5_smooth, cX5_smooth, 3, (some .int))
abbrev kX5_turns : Mth := (yX5_turns, cX5_turns, 6, (some .int))
abbrev kX0_spreadTurning : Mth := (yX0_spreadTurning, cX0_spreadTurning, 6, none)
abbrev kJ9_min_7cf53 : Mth := (yJ9_min_7cf53, cJ9_min_7cf53, 2, (some .int))
abbrev kX5_within : Mth := (yX5_within, cX5_within, 3, (some .int))
abbrev kX5_mends : Mth := (yX5_mends, cX5_mends, 8, (some .int))
abbrev kX5_farThrough : Mth := (yX5_farThrough, cX5_farThrough, 5, (some .int))
abbrev kX5_feed : Mth := (yX5_feed, cX5_feed, 4, (some .int))
abbrev kX2_add : Mth := (yX2_add, cX2_add, 2, none)
abbrev kX5_wipe : Mth := (yX5_wipe, cX5_wipe, 2, (some .int))
abbrev kX5_plain : Mth := (yX5_plain, cX5_plain, 2, (some .int))
abbrev kX0_become : Mth := (yX0_become, cX0_become, 3, none)
abbrev kX3_tellAll : Mth := (yX3_tellAll, cX3_tellAll, 3, (some .int))
abbrev kX2_begin : Mth := (yX2_begin, cX2_begin, 1, none)
abbrev kX2_advance : Mth := (yX2_advance, cX2_advance, 1, none)
abbrev kX2_isLetter : Mth := (yX2_isLetter, cX2_isLetter, 1, (some .boolean))
abbrev kX2_isDigit : Mth := (yX2_isDigit, cX2_isDigit, 1, (some .boolean))
abbrev kX3_tellItem : Mth := (yX3_tellItem, cX3_tellItem, 2, (some .boolean))
abbrev kX2_isWord : Mth := (yX2_isWord, cX2_isWord, 3, (some .boolean))
abbrev kJ0_length_8abf5 : Mth := (yJ0_length_8abf5, cJ0_length_8abf5, 1, (some .int))
abbrev kJ0_coder_7d493 : Mth := (yJ0_coder_7d493, cJ0_coder_7d493, 1, (some .byte))
abbrev kJ0_charAt_5068e : Mth := (yJ0_charAt_5068e, cJ0_charAt_5068e, 2, (some .char))
abbrev kJ0_isLatin1_aae02 : Mth := (yJ0_isLatin1_aae02, cJ0_isLatin1_aae02, 1, (some .boolean))
abbrev kJ1_charAt_3b067 : Mth := (yJ1_charAt_3b067, cJ1_charAt_3b067, 2, (some .char))
abbrev kJ0_checkIndex_df160 : Mth := (yJ0_checkIndex_df160, cJ0_checkIndex_df160, 2, none)
abbrev kJ3_checkIndex_8e157 : Mth := (yJ3_checkIndex_8e157, cJ3_checkIndex_8e157, 3, (some .int))
abbrev kJ2_charAt_3b067 : Mth := (yJ2_charAt_3b067, cJ2_charAt_3b067, 2, (some .char))
abbrev kJ2_checkIndex_2214a : Mth := (yJ2_checkIndex_2214a, cJ2_checkIndex_2214a, 2, none)
abbrev kJ2_length_9d52b : Mth := (yJ2_length_9d52b, cJ2_length_9d52b, 1, (some .int))
abbrev kJ2_getChar_3b067 : Mth := (yJ2_getChar_3b067, cJ2_getChar_3b067, 2, (some .char))
abbrev kX3_tellField : Mth := (yX3_tellField, cX3_tellField, 3, (some .boolean))
abbrev kX2_isNumberBelow : Mth := (yX2_isNumberBelow, cX2_isNumberBelow, 2, (some .boolean))
abbrev kX3_tellGlue : Mth := (yX3_tellGlue, cX3_tellGlue, 4, (some .boolean))
abbrev kX3_lookAtSide : Mth := (yX3_lookAtSide, cX3_lookAtSide, 4, (some .int))
abbrev kX3_sideNamed : Mth := (yX3_sideNamed, cX3_sideNamed, 2, (some .int))
abbrev kX3_sideName : Mth := (yX3_sideName, cX3_sideName, 1, (some (.object "java/lang/String")))
abbrev kX3_tellCut : Mth := (yX3_tellCut, cX3_tellCut, 3, (some .boolean))
abbrev kX3_tellWalker : Mth := (yX3_tellWalker, cX3_tellWalker, 4, (some .boolean))
abbrev kX3_kindNamed : Mth := (yX3_kindNamed, cX3_kindNamed, 2, (some .int))
abbrev kX3_kindName : Mth := (yX3_kindName, cX3_kindName, 1, (some (.object "java/lang/String")))
abbrev kX5_sheet : Mth := (yX5_sheet, cX5_sheet, 5, (some .int))
abbrev kX5_isSheet : Mth := (yX5_isSheet, cX5_isSheet, 1, (some .boolean))
abbrev kX1_begin : Mth := (yX1_begin, cX1_begin, 3, none)
abbrev kJ7_fill_d0a16 : Mth := (yJ7_fill_d0a16, cJ7_fill_d0a16, 5, none)
abbrev kX5_write : Mth := (yX5_write, cX5_write, 9, (some .long))
abbrev kX5_sheetFinding : Mth := (yX5_sheetFinding, cX5_sheetFinding, 2, (some .int))
abbrev kX1_lowestBits : Mth := (yX1_lowestBits, cX1_lowestBits, 3, (some .long))
abbrev kX5_copy : Mth := (yX5_copy, cX5_copy, 8, (some .int))
abbrev kX1_hasRow : Mth := (yX1_hasRow, cX1_hasRow, 3, (some .boolean))
abbrev kX5_lays : Mth := (yX5_lays, cX5_lays, 8, (some .int))
abbrev kX5_book : Mth := (yX5_book, cX5_book, 6, (some .int))
abbrev kX5_bookFinding : Mth := (yX5_bookFinding, cX5_bookFinding, 4, (some .int))
abbrev kX5_read : Mth := (yX5_read, cX5_read, 6, (some .int))
abbrev kX5_goesByBook : Mth := (yX5_goesByBook, cX5_goesByBook, 3, (some .boolean))
abbrev kX5_image : Mth := (yX5_image, cX5_image, 1, (some .int))
abbrev kX5_undo : Mth := (yX5_undo, cX5_undo, 1, (some .int))
abbrev kX5_tear : Mth := (yX5_tear, cX5_tear, 2, (some .int))
abbrev kX5_count : Mth := (yX5_count, cX5_count, 2, (some .int))
abbrev kX0_gluedSides : Mth := (yX0_gluedSides, cX0_gluedSides, 3, (some .int))
abbrev kX5_status : Mth := (yX5_status, cX5_status, 4, (some .int))
abbrev kX6_init : Mth := (yX6_init, cX6_init, 1, none)
abbrev kX6_field : Mth := (yX6_field, cX6_field, 2, (some .int))
abbrev kX6_in : Mth := (yX6_in, cX6_in, 6, (some .boolean))
abbrev kX6_finds : Mth := (yX6_finds, cX6_finds, 2, (some .int))
abbrev kX6_adds : Mth := (yX6_adds, cX6_adds, 2, (some .int))
abbrev kX6_of : Mth := (yX6_of, cX6_of, 3, (some .int))
abbrev kX6_isField : Mth := (yX6_isField, cX6_isField, 2, (some .boolean))
abbrev kX6_gluedOf : Mth := (yX6_gluedOf, cX6_gluedOf, 4, (some .int))
abbrev kX6_those : Mth := (yX6_those, cX6_those, 4, (some .int))
abbrev kX6_partOf : Mth := (yX6_partOf, cX6_partOf, 3, (some .int))
abbrev kX6_spot : Mth := (yX6_spot, cX6_spot, 2, (some .int))
abbrev kX6_rough : Mth := (yX6_rough, cX6_rough, 3, (some .int))
abbrev kX6_becomes : Mth := (yX6_becomes, cX6_becomes, 4, (some .int))
abbrev kX6_glue : Mth := (yX6_glue, cX6_glue, 5, (some .int))
abbrev kX6_isWay : Mth := (yX6_isWay, cX6_isWay, 3, (some .boolean))
abbrev kX6_isSide : Mth := (yX6_isSide, cX6_isSide, 1, (some .boolean))
abbrev kX6_glues : Mth := (yX6_glues, cX6_glues, 3, none)
abbrev kX6_cut : Mth := (yX6_cut, cX6_cut, 4, (some .int))
abbrev kX6_cuts : Mth := (yX6_cuts, cX6_cuts, 2, none)
abbrev kX6_over : Mth := (yX6_over, cX6_over, 4, (some .int))
abbrev kX6_walker : Mth := (yX6_walker, cX6_walker, 4, (some .int))
abbrev kX6_isKind : Mth := (yX6_isKind, cX6_isKind, 1, (some .boolean))
abbrev kX6_comes : Mth := (yX6_comes, cX6_comes, 5, (some .int))
abbrev kX6_its : Mth := (yX6_its, cX6_its, 3, (some .int))
abbrev kX6_isWalker : Mth := (yX6_isWalker, cX6_isWalker, 2, (some .boolean))
abbrev kX6_pays : Mth := (yX6_pays, cX6_pays, 2, (some .int))
abbrev kX6_place : Mth := (yX6_place, cX6_place, 5, (some .int))
abbrev kX6_wayOf : Mth := (yX6_wayOf, cX6_wayOf, 2, (some .int))
abbrev kX6_stands : Mth := (yX6_stands, cX6_stands, 3, none)
abbrev kX6_turn : Mth := (yX6_turn, cX6_turn, 3, (some .int))
abbrev kX6_as : Mth := (yX6_as, cX6_as, 4, (some .int))
abbrev kX6_above : Mth := (yX6_above, cX6_above, 1, (some .int))
abbrev kX6_step : Mth := (yX6_step, cX6_step, 2, (some .int))
abbrev kX6_goes : Mth := (yX6_goes, cX6_goes, 6, none)
abbrev kX6_onward : Mth := (yX6_onward, cX6_onward, 3, (some .int))
abbrev kX6_atBump : Mth := (yX6_atBump, cX6_atBump, 1, (some .int))
abbrev kX6_quarters : Mth := (yX6_quarters, cX6_quarters, 3, (some .int))
abbrev kX6_steps : Mth := (yX6_steps, cX6_steps, 3, (some .int))
abbrev kX6_all : Mth := (yX6_all, cX6_all, 2, none)
abbrev kX6_allMiles : Mth := (yX6_allMiles, cX6_allMiles, 3, (some .int))
abbrev kX6_on : Mth := (yX6_on, cX6_on, 5, (some .int))
abbrev kX6_laysAside : Mth := (yX6_laysAside, cX6_laysAside, 2, none)
abbrev kX6_takesBack : Mth := (yX6_takesBack, cX6_takesBack, 3, (some .int))
abbrev kX6_when : Mth := (yX6_when, cX6_when, 4, (some .int))
abbrev kX6_orNone : Mth := (yX6_orNone, cX6_orNone, 3, (some .int))
abbrev kX6_back : Mth := (yX6_back, cX6_back, 4, (some .int))
abbrev kX6_meet : Mth := (yX6_meet, cX6_meet, 4, (some .int))
abbrev kX6_spares : Mth := (yX6_spares, cX6_spares, 4, (some .int))
abbrev kX6_closes : Mth := (yX6_closes, cX6_closes, 6, (some .int))
abbrev kX6_bumps : Mth := (yX6_bumps, cX6_bumps, 5, (some .int))
abbrev kX6_square : Mth := (yX6_square, cX6_square, 8, (some .int))
abbrev kX6_dine : Mth := (yX6_dine, cX6_dine, 8, (some .int))
abbrev kX6_sees : Mth := (yX6_sees, cX6_sees, 3, (some .int))
abbrev kX6_seen : Mth := (yX6_seen, cX6_seen, 4, (some .int))
abbrev kX6_twice : Mth := (yX6_twice, cX6_twice, 6, (some .int))
abbrev kX6_ones : Mth := (yX6_ones, cX6_ones, 3, (some .int))
abbrev kX6_about : Mth := (yX6_about, cX6_about, 4, (some .int))
abbrev kX6_aboutOf : Mth := (yX6_aboutOf, cX6_aboutOf, 4, (some .int))
abbrev kX6_beside : Mth := (yX6_beside, cX6_beside, 3, (some .int))
abbrev kX6_corners : Mth := (yX6_corners, cX6_corners, 3, (some .int))
abbrev kX6_isFirst : Mth := (yX6_isFirst, cX6_isFirst, 4, (some .boolean))
abbrev kX6_excess : Mth := (yX6_excess, cX6_excess, 3, (some .int))
abbrev kX6_bent : Mth := (yX6_bent, cX6_bent, 3, (some .int))
abbrev kX6_parts : Mth := (yX6_parts, cX6_parts, 6, (some .int))
abbrev kX6_spread : Mth := (yX6_spread, cX6_spread, 4, (some .int))
abbrev kX6_far : Mth := (yX6_far, cX6_far, 3, (some .int))
abbrev kX6_farOf : Mth := (yX6_farOf, cX6_farOf, 5, (some .int))
abbrev kX6_smooth : Mth := (yX6_smooth, cX6_smooth, 7, (some .int))
abbrev kX6_turns : Mth := (yX6_turns, cX6_turns, 10, (some .int))
abbrev kX6_within : Mth := (yX6_within, cX6_within, 5, (some .int))
abbrev kX6_mends : Mth := (yX6_mends, cX6_mends, 8, (some .int))
abbrev kX6_feed : Mth := (yX6_feed, cX6_feed, 4, (some .int))
abbrev kX6_wipe : Mth := (yX6_wipe, cX6_wipe, 2, (some .int))
abbrev kX6_plain : Mth := (yX6_plain, cX6_plain, 2, (some .int))
abbrev kX6_saves : Mth := (yX6_saves, cX6_saves, 2, none)
abbrev kX6_token : Mth := (yX6_token, cX6_token, 3, none)
abbrev kX6_byteAt : Mth := (yX6_byteAt, cX6_byteAt, 2, (some .int))
abbrev kX6_isLetter : Mth := (yX6_isLetter, cX6_isLetter, 1, (some .boolean))
abbrev kX6_isDigit : Mth := (yX6_isDigit, cX6_isDigit, 1, (some .boolean))
abbrev kX6_item : Mth := (yX6_item, cX6_item, 4, none)
abbrev kX6_kindHere : Mth := (yX6_kindHere, cX6_kindHere, 3, (some .int))
abbrev kX6_word : Mth := (yX6_word, cX6_word, 4, (some .long))
abbrev kX6_walkerItem : Mth := (yX6_walkerItem, cX6_walkerItem, 5, none)
abbrev kX6_wants : Mth := (yX6_wants, cX6_wants, 2, none)
abbrev kX6_fieldHere : Mth := (yX6_fieldHere, cX6_fieldHere, 1, none)
abbrev kX6_number : Mth := (yX6_number, cX6_number, 6, none)
abbrev kX6_sideNamed : Mth := (yX6_sideNamed, cX6_sideNamed, 3, (some .int))
abbrev kX6_fieldItem : Mth := (yX6_fieldItem, cX6_fieldItem, 3, none)
abbrev kX6_glueItem : Mth := (yX6_glueItem, cX6_glueItem, 3, none)
abbrev kX6_sideHere : Mth := (yX6_sideHere, cX6_sideHere, 6, (some .int))
abbrev kX6_cutItem : Mth := (yX6_cutItem, cX6_cutItem, 2, none)
abbrev kX6_putsBack : Mth := (yX6_putsBack, cX6_putsBack, 2, none)
abbrev kX6_sheet : Mth := (yX6_sheet, cX6_sheet, 5, (some .int))
abbrev kX6_isOne : Mth := (yX6_isOne, cX6_isOne, 1, (some .boolean))
abbrev kX6_write : Mth := (yX6_write, cX6_write, 8, (some .long))
abbrev kX6_wrong : Mth := (yX6_wrong, cX6_wrong, 2, (some .int))
abbrev kX6_narrowed : Mth := (yX6_narrowed, cX6_narrowed, 3, (some .long))
abbrev kX6_copy : Mth := (yX6_copy, cX6_copy, 7, (some .int))
abbrev kX6_lays : Mth := (yX6_lays, cX6_lays, 7, (some .int))
abbrev kX6_book : Mth := (yX6_book, cX6_book, 5, (some .int))
abbrev kX6_wrongBook : Mth := (yX6_wrongBook, cX6_wrongBook, 4, (some .int))
abbrev kX6_read : Mth := (yX6_read, cX6_read, 6, (some .int))
abbrev kX6_isSo : Mth := (yX6_isSo, cX6_isSo, 5, (some .int))
abbrev kX6_image : Mth := (yX6_image, cX6_image, 2, (some .int))
abbrev kX6_undo : Mth := (yX6_undo, cX6_undo, 2, (some .int))
abbrev kX6_tear : Mth := (yX6_tear, cX6_tear, 2, (some .int))
abbrev kX6_count : Mth := (yX6_count, cX6_count, 2, (some .int))
abbrev kX6_gluedSides : Mth := (yX6_gluedSides, cX6_gluedSides, 3, (some .int))
abbrev kX6_status : Mth := (yX6_status, cX6_status, 4, (some .int))
theorem w_38 : Cond.fieldLink RX4 9 "BentPlain$Walker" "kind" "I" ∈ Tw := tw_of (i := 38) (by decide +kernel) (by decide +kernel)
theorem flX4_9 : FL RX4 9 3 0 := ⟨_, rfl, by decide, w_38, rfl⟩
theorem fpX4_9 : FP RX4 9 3 0 .int := ⟨_, rfl, by decide, w_38, rfl, rfl, by decide +kernel⟩
theorem w_39 : Cond.fieldLink RX5 133 "BentPlain$Walker" "kind" "I" ∈ Tw := tw_of (i := 39) (by decide +kernel) (by decide +kernel)
theorem flX5_133 : FL RX5 133 3 0 := ⟨_, rfl, by decide, w_39, rfl⟩
theorem fpX5_133 : FP RX5 133 3 0 .int := ⟨_, rfl, by decide, w_39, rfl, rfl, by decide +kernel⟩
theorem w_40 : Cond.fieldLink RX4 15 "BentPlain$Walker" "way" "I" ∈ Tw := tw_of (i := 40) (by decide +kernel) (by decide +kernel)
theorem flX4_15 : FL RX4 15 3 1 := ⟨_, rfl, by decide, w_40, rfl⟩
theorem fpX4_15 : FP RX4 15 3 1 .int := ⟨_, rfl, by decide, w_40, rfl, rfl, by decide +kernel⟩
theorem w_41 : Cond.fieldLink RX5 136 "BentPlain$Walker" "way" "I" ∈ Tw := tw_of (i := 41) (by decide +kernel) (by decide +kernel)
theorem flX5_136 : FL RX5 136 3 1 := ⟨_, rfl, by decide, w_41, rfl⟩
theorem fpX5_136 : FP RX5 136 3 1 .int := ⟨_, rfl, by decide, w_41, rfl, rfl, by decide +kernel⟩
theorem w_42 : Cond.fieldLink RX0 65 "BentPlain$Walker" "way" "I" ∈ Tw := tw_of (i := 42) (by decide +kernel) (by decide +kernel)
theorem flX0_65 : FL RX0 65 3 1 := ⟨_, rfl, by decide, w_42, rfl⟩
theorem fpX0_65 : FP RX0 65 3 1 .int := ⟨_, rfl, by decide, w_42, rfl, rfl, by decide +kernel⟩
theorem w_43 : Cond.fieldLink RX4 18 "BentPlain$Walker" "miles" "I" ∈ Tw := tw_of (i := 43) (by decide +kernel) (by decide +kernel)
theorem flX4_18 : FL RX4 18 3 2 := ⟨_, rfl, by decide, w_43, rfl⟩
theorem fpX4_18 : FP RX4 18 3 2 .int := ⟨_, rfl, by decide, w_43, rfl, rfl, by decide +kernel⟩
theorem w_44 : Cond.fieldLink RX5 145 "BentPlain$Walker" "miles" "I" ∈ Tw := tw_of (i := 44) (by decide +kernel) (by decide +kernel)
theorem flX5_145 : FL RX5 145 3 2 := ⟨_, rfl, by decide, w_44, rfl⟩
theorem fpX5_145 : FP RX5 145 3 2 .int := ⟨_, rfl, by decide, w_44, rfl, rfl, by decide +kernel⟩
theorem w_45 : Cond.fieldLink RX0 71 "BentPlain$Walker" "miles" "I" ∈ Tw := tw_of (i := 45) (by decide +kernel) (by decide +kernel)
theorem flX0_71 : FL RX0 71 3 2 := ⟨_, rfl, by decide, w_45, rfl⟩
theorem fpX0_71 : FP RX0 71 3 2 .int := ⟨_, rfl, by decide, w_45, rfl, rfl, by decide +kernel⟩
theorem w_46 : Cond.fieldLink RX4 21 "BentPlain$Walker" "bumped" "I" ∈ Tw := tw_of (i := 46) (by decide +kernel) (by decide +kernel)
theorem flX4_21 : FL RX4 21 3 3 := ⟨_, rfl, by decide, w_46, rfl⟩
theorem fpX4_21 : FP RX4 21 3 3 .int := ⟨_, rfl, by decide, w_46, rfl, rfl, by decide +kernel⟩
theorem w_47 : Cond.fieldLink RX5 148 "BentPlain$Walker" "bumped" "I" ∈ Tw := tw_of (i := 47) (by decide +kernel) (by decide +kernel)
theorem flX5_148 : FL RX5 148 3 3 := ⟨_, rfl, by decide, w_47, rfl⟩
theorem fpX5_148 : FP RX5 148 3 3 .int := ⟨_, rfl, by decide, w_47, rfl, rfl, by decide +kernel⟩
theorem w_58 : Cond.fieldLink RX0 25 "BentPlain$Ground" "fields" "I" ∈ Tw := tw_of (i := 58) (by decide +kernel) (by decide +kernel)
theorem flX0_25 : FL RX0 25 0 0 := ⟨_, rfl, by decide, w_58, rfl⟩
theorem fpX0_25 : FP RX0 25 0 0 .int := ⟨_, rfl, by decide, w_58, rfl, rfl, by decide +kernel⟩
theorem w_59 : Cond.fieldLink RX5 68 "BentPlain$Ground" "fields" "I" ∈ Tw := tw_of (i := 59) (by decide +kernel) (by decide +kernel)
theorem flX5_68 : FL RX5 68 0 0 := ⟨_, rfl, by decide, w_59, rfl⟩
theorem fpX5_68 : FP RX5 68 0 0 .int := ⟨_, rfl, by decide, w_59, rfl, rfl, by decide +kernel⟩
theorem w_60 : Cond.fieldLink RX3 52 "BentPlain$Ground" "fields" "I" ∈ Tw := tw_of (i := 60) (by decide +kernel) (by decide +kernel)
theorem flX3_52 : FL RX3 52 0 0 := ⟨_, rfl, by decide, w_60, rfl⟩
theorem fpX3_52 : FP RX3 52 0 0 .int := ⟨_, rfl, by decide, w_60, rfl, rfl, by decide +kernel⟩
theorem w_61 : Cond.fieldLink RX0 29 "BentPlain$Ground" "walkers" "I" ∈ Tw := tw_of (i := 61) (by decide +kernel) (by decide +kernel)
theorem flX0_29 : FL RX0 29 0 1 := ⟨_, rfl, by decide, w_61, rfl⟩
theorem fpX0_29 : FP RX0 29 0 1 .int := ⟨_, rfl, by decide, w_61, rfl, rfl, by decide +kernel⟩
theorem w_62 : Cond.fieldLink RX3 89 "BentPlain$Ground" "walkers" "I" ∈ Tw := tw_of (i := 62) (by decide +kernel) (by decide +kernel)
theorem flX3_89 : FL RX3 89 0 1 := ⟨_, rfl, by decide, w_62, rfl⟩
theorem fpX3_89 : FP RX3 89 0 1 .int := ⟨_, rfl, by decide, w_62, rfl, rfl, by decide +kernel⟩
theorem w_63 : Cond.fieldLink RX5 120 "BentPlain$Ground" "walkers" "I" ∈ Tw := tw_of (i := 63) (by decide +kernel) (by decide +kernel)
theorem flX5_120 : FL RX5 120 0 1 := ⟨_, rfl, by decide, w_63, rfl⟩
theorem fpX5_120 : FP RX5 120 0 1 .int := ⟨_, rfl, by decide, w_63, rfl, rfl, by decide +kernel⟩
theorem w_64 : Cond.fieldLink RX0 11 "BentPlain$Ground" "people" "[LBentPlain$Walker;" ∈ Tw := tw_of (i := 64) (by decide +kernel) (by decide +kernel)
theorem flX0_11 : FL RX0 11 0 2 := ⟨_, rfl, by decide, w_64, rfl⟩
theorem w_65 : Cond.fieldLink RX5 129 "BentPlain$Ground" "people" "[LBentPlain$Walker;" ∈ Tw := tw_of (i := 65) (by decide +kernel) (by decide +kernel)
theorem flX5_129 : FL RX5 129 0 2 := ⟨_, rfl, by decide, w_65, rfl⟩
theorem w_66 : Cond.fieldLink RX0 17 "BentPlain$Ground" "roughs" "[I" ∈ Tw := tw_of (i := 66) (by decide +kernel) (by decide +kernel)
theorem flX0_17 : FL RX0 17 0 3 := ⟨_, rfl, by decide, w_66, rfl⟩
theorem w_67 : Cond.fieldLink RX0 21 "BentPlain$Ground" "glued" "[I" ∈ Tw := tw_of (i := 67) (by decide +kernel) (by decide +kernel)
theorem flX0_21 : FL RX0 21 0 4 := ⟨_, rfl, by decide, w_67, rfl⟩
theorem w_87 : Cond.fieldLink RX2 15 "BentPlain$Tape" "length" "I" ∈ Tw := tw_of (i := 87) (by decide +kernel) (by decide +kernel)
theorem flX2_15 : FL RX2 15 2 0 := ⟨_, rfl, by decide, w_87, rfl⟩
theorem fpX2_15 : FP RX2 15 2 0 .int := ⟨_, rfl, by decide, w_87, rfl, rfl, by decide +kernel⟩
theorem w_88 : Cond.fieldLink RX5 235 "BentPlain$Tape" "length" "I" ∈ Tw := tw_of (i := 88) (by decide +kernel) (by decide +kernel)
theorem flX5_235 : FL RX5 235 2 0 := ⟨_, rfl, by decide, w_88, rfl⟩
theorem fpX5_235 : FP RX5 235 2 0 .int := ⟨_, rfl, by decide, w_88, rfl, rfl, by decide +kernel⟩
theorem w_89 : Cond.fieldLink RX3 24 "BentPlain$Tape" "sort" "I" ∈ Tw := tw_of (i := 89) (by decide +kernel) (by decide +kernel)
theorem flX3_24 : FL RX3 24 2 1 := ⟨_, rfl, by decide, w_89, rfl⟩
theorem fpX3_24 : FP RX3 24 2 1 .int := ⟨_, rfl, by decide, w_89, rfl, rfl, by decide +kernel⟩
theorem w_90 : Cond.fieldLink RX2 35 "BentPlain$Tape" "sort" "I" ∈ Tw := tw_of (i := 90) (by decide +kernel) (by decide +kernel)
theorem flX2_35 : FL RX2 35 2 1 := ⟨_, rfl, by decide, w_90, rfl⟩
theorem fpX2_35 : FP RX2 35 2 1 .int := ⟨_, rfl, by decide, w_90, rfl, rfl, by decide +kernel⟩
theorem w_91 : Cond.fieldLink RX3 20 "BentPlain$Tape" "start" "I" ∈ Tw := tw_of (i := 91) (by decide +kernel) (by decide +kernel)
theorem flX3_20 : FL RX3 20 2 2 := ⟨_, rfl, by decide, w_91, rfl⟩
theorem fpX3_20 : FP RX3 20 2 2 .int := ⟨_, rfl, by decide, w_91, rfl, rfl, by decide +kernel⟩
theorem w_92 : Cond.fieldLink RX2 25 "BentPlain$Tape" "start" "I" ∈ Tw := tw_of (i := 92) (by decide +kernel) (by decide +kernel)
theorem flX2_25 : FL RX2 25 2 2 := ⟨_, rfl, by decide, w_92, rfl⟩
theorem fpX2_25 : FP RX2 25 2 2 .int := ⟨_, rfl, by decide, w_92, rfl, rfl, by decide +kernel⟩
theorem w_93 : Cond.fieldLink RX3 63 "BentPlain$Tape" "number" "I" ∈ Tw := tw_of (i := 93) (by decide +kernel) (by decide +kernel)
theorem flX3_63 : FL RX3 63 2 3 := ⟨_, rfl, by decide, w_93, rfl⟩
theorem fpX3_63 : FP RX3 63 2 3 .int := ⟨_, rfl, by decide, w_93, rfl, rfl, by decide +kernel⟩
theorem w_94 : Cond.fieldLink RX2 28 "BentPlain$Tape" "number" "I" ∈ Tw := tw_of (i := 94) (by decide +kernel) (by decide +kernel)
theorem flX2_28 : FL RX2 28 2 3 := ⟨_, rfl, by decide, w_94, rfl⟩
theorem fpX2_28 : FP RX2 28 2 3 .int := ⟨_, rfl, by decide, w_94, rfl, rfl, by decide +kernel⟩
theorem w_95 : Cond.fieldLink RX2 19 "BentPlain$Tape" "end" "I" ∈ Tw := tw_of (i := 95) (by decide +kernel) (by decide +kernel)
theorem flX2_19 : FL RX2 19 2 4 := ⟨_, rfl, by decide, w_95, rfl⟩
theorem fpX2_19 : FP RX2 19 2 4 .int := ⟨_, rfl, by decide, w_95, rfl, rfl, by decide +kernel⟩
theorem w_96 : Cond.fieldLink RX2 9 "BentPlain$Tape" "bytes" "[I" ∈ Tw := tw_of (i := 96) (by decide +kernel) (by decide +kernel)
theorem flX2_9 : FL RX2 9 2 5 := ⟨_, rfl, by decide, w_96, rfl⟩
theorem w_117 : Cond.fieldLink RX1 15 "BentPlain$Sheet" "bits" "I" ∈ Tw := tw_of (i := 117) (by decide +kernel) (by decide +kernel)
theorem flX1_15 : FL RX1 15 1 0 := ⟨_, rfl, by decide, w_117, rfl⟩
theorem fpX1_15 : FP RX1 15 1 0 .int := ⟨_, rfl, by decide, w_117, rfl, rfl, by decide +kernel⟩
theorem w_118 : Cond.fieldLink RX5 270 "BentPlain$Sheet" "bits" "I" ∈ Tw := tw_of (i := 118) (by decide +kernel) (by decide +kernel)
theorem flX5_270 : FL RX5 270 1 0 := ⟨_, rfl, by decide, w_118, rfl⟩
theorem fpX5_270 : FP RX5 270 1 0 .int := ⟨_, rfl, by decide, w_118, rfl, rfl, by decide +kernel⟩
theorem w_119 : Cond.fieldLink RX1 19 "BentPlain$Sheet" "size" "I" ∈ Tw := tw_of (i := 119) (by decide +kernel) (by decide +kernel)
theorem flX1_19 : FL RX1 19 1 1 := ⟨_, rfl, by decide, w_119, rfl⟩
theorem fpX1_19 : FP RX1 19 1 1 .int := ⟨_, rfl, by decide, w_119, rfl, rfl, by decide +kernel⟩
theorem w_120 : Cond.fieldLink RX5 256 "BentPlain$Sheet" "size" "I" ∈ Tw := tw_of (i := 120) (by decide +kernel) (by decide +kernel)
theorem flX5_256 : FL RX5 256 1 1 := ⟨_, rfl, by decide, w_120, rfl⟩
theorem fpX5_256 : FP RX5 256 1 1 .int := ⟨_, rfl, by decide, w_120, rfl, rfl, by decide +kernel⟩
theorem w_121 : Cond.fieldLink RX1 9 "BentPlain$Sheet" "numbers" "[J" ∈ Tw := tw_of (i := 121) (by decide +kernel) (by decide +kernel)
theorem flX1_9 : FL RX1 9 1 2 := ⟨_, rfl, by decide, w_121, rfl⟩
theorem w_122 : Cond.fieldLink RX5 262 "BentPlain$Sheet" "numbers" "[J" ∈ Tw := tw_of (i := 122) (by decide +kernel) (by decide +kernel)
theorem flX5_262 : FL RX5 262 1 2 := ⟨_, rfl, by decide, w_122, rfl⟩
theorem w_131 : Cond.fieldLink RX5 12 "BentPlain" "now" "LBentPlain$Ground;" ∈ Tw := tw_of (i := 131) (by decide +kernel) (by decide +kernel)
theorem flX5_12 : FL RX5 12 4 0 := ⟨_, rfl, by decide, w_131, rfl⟩
theorem w_132 : Cond.fieldLink RX5 16 "BentPlain" "kept" "LBentPlain$Ground;" ∈ Tw := tw_of (i := 132) (by decide +kernel) (by decide +kernel)
theorem flX5_16 : FL RX5 16 4 1 := ⟨_, rfl, by decide, w_132, rfl⟩
theorem w_133 : Cond.fieldLink RX5 19 "BentPlain" "before" "LBentPlain$Ground;" ∈ Tw := tw_of (i := 133) (by decide +kernel) (by decide +kernel)
theorem flX5_19 : FL RX5 19 4 2 := ⟨_, rfl, by decide, w_133, rfl⟩
theorem w_134 : Cond.fieldLink RX5 25 "BentPlain" "probe" "LBentPlain$Walker;" ∈ Tw := tw_of (i := 134) (by decide +kernel) (by decide +kernel)
theorem flX5_25 : FL RX5 25 4 3 := ⟨_, rfl, by decide, w_134, rfl⟩
theorem w_135 : Cond.fieldLink RX5 29 "BentPlain" "otherProbe" "LBentPlain$Walker;" ∈ Tw := tw_of (i := 135) (by decide +kernel) (by decide +kernel)
theorem flX5_29 : FL RX5 29 4 4 := ⟨_, rfl, by decide, w_135, rfl⟩
theorem w_136 : Cond.fieldLink RX5 32 "BentPlain" "distances" "[I" ∈ Tw := tw_of (i := 136) (by decide +kernel) (by decide +kernel)
theorem flX5_32 : FL RX5 32 4 5 := ⟨_, rfl, by decide, w_136, rfl⟩
theorem w_137 : Cond.fieldLink RX5 36 "BentPlain" "otherDistances" "[I" ∈ Tw := tw_of (i := 137) (by decide +kernel) (by decide +kernel)
theorem flX5_36 : FL RX5 36 4 6 := ⟨_, rfl, by decide, w_137, rfl⟩
theorem w_138 : Cond.fieldLink RX5 39 "BentPlain" "quarters" "[I" ∈ Tw := tw_of (i := 138) (by decide +kernel) (by decide +kernel)
theorem flX5_39 : FL RX5 39 4 7 := ⟨_, rfl, by decide, w_138, rfl⟩
theorem w_139 : Cond.fieldLink RX5 45 "BentPlain" "tape" "LBentPlain$Tape;" ∈ Tw := tw_of (i := 139) (by decide +kernel) (by decide +kernel)
theorem flX5_45 : FL RX5 45 4 8 := ⟨_, rfl, by decide, w_139, rfl⟩
theorem w_140 : Cond.fieldLink RX5 51 "BentPlain" "sheets" "[LBentPlain$Sheet;" ∈ Tw := tw_of (i := 140) (by decide +kernel) (by decide +kernel)
theorem flX5_51 : FL RX5 51 4 9 := ⟨_, rfl, by decide, w_140, rfl⟩
theorem w_141 : Cond.fieldLink RX5 55 "BentPlain" "found" "[I" ∈ Tw := tw_of (i := 141) (by decide +kernel) (by decide +kernel)
theorem flX5_55 : FL RX5 55 4 10 := ⟨_, rfl, by decide, w_141, rfl⟩
theorem w_142 : Cond.fieldLink RX5 292 "BentPlain" "hasKept" "Z" ∈ Tw := tw_of (i := 142) (by decide +kernel) (by decide +kernel)
theorem flX5_292 : FL RX5 292 4 11 := ⟨_, rfl, by decide, w_142, rfl⟩
theorem fpX5_292 : FP RX5 292 4 11 .boolean := ⟨_, rfl, by decide, w_142, rfl, rfl, by decide +kernel⟩
theorem w_749 : Cond.fieldLink RX6 7 "BentPlainModel" "s" "[I" ∈ Tw := tw_of (i := 749) (by decide +kernel) (by decide +kernel)
theorem flX6_7 : FL RX6 7 5 0 := ⟨_, rfl, by decide, w_749, rfl⟩
theorem w_750 : Cond.fieldLink RX6 13 "BentPlainModel" "keptS" "[I" ∈ Tw := tw_of (i := 750) (by decide +kernel) (by decide +kernel)
theorem flX6_13 : FL RX6 13 5 1 := ⟨_, rfl, by decide, w_750, rfl⟩
theorem w_751 : Cond.fieldLink RX6 16 "BentPlainModel" "other" "[I" ∈ Tw := tw_of (i := 751) (by decide +kernel) (by decide +kernel)
theorem flX6_16 : FL RX6 16 5 2 := ⟨_, rfl, by decide, w_751, rfl⟩
theorem w_752 : Cond.fieldLink RX6 19 "BentPlainModel" "aside" "[I" ∈ Tw := tw_of (i := 752) (by decide +kernel) (by decide +kernel)
theorem flX6_19 : FL RX6 19 5 3 := ⟨_, rfl, by decide, w_752, rfl⟩
theorem w_753 : Cond.fieldLink RX6 22 "BentPlainModel" "statuses" "[I" ∈ Tw := tw_of (i := 753) (by decide +kernel) (by decide +kernel)
theorem flX6_22 : FL RX6 22 5 4 := ⟨_, rfl, by decide, w_753, rfl⟩
theorem w_754 : Cond.fieldLink RX6 316 "BentPlainModel" "isKept" "Z" ∈ Tw := tw_of (i := 754) (by decide +kernel) (by decide +kernel)
theorem flX6_316 : FL RX6 316 5 5 := ⟨_, rfl, by decide, w_754, rfl⟩
theorem fpX6_316 : FP RX6 316 5 5 .boolean := ⟨_, rfl, by decide, w_754, rfl, rfl, by decide +kernel⟩
theorem w_755 : Cond.fieldLink RX6 25 "BentPlainModel" "least" "[I" ∈ Tw := tw_of (i := 755) (by decide +kernel) (by decide +kernel)
theorem flX6_25 : FL RX6 25 5 6 := ⟨_, rfl, by decide, w_755, rfl⟩
theorem w_756 : Cond.fieldLink RX6 28 "BentPlainModel" "tape" "[I" ∈ Tw := tw_of (i := 756) (by decide +kernel) (by decide +kernel)
theorem flX6_28 : FL RX6 28 5 7 := ⟨_, rfl, by decide, w_756, rfl⟩
theorem w_757 : Cond.fieldLink RX6 182 "BentPlainModel" "taped" "I" ∈ Tw := tw_of (i := 757) (by decide +kernel) (by decide +kernel)
theorem flX6_182 : FL RX6 182 5 8 := ⟨_, rfl, by decide, w_757, rfl⟩
theorem fpX6_182 : FP RX6 182 5 8 .int := ⟨_, rfl, by decide, w_757, rfl, rfl, by decide +kernel⟩
theorem w_758 : Cond.fieldLink RX6 197 "BentPlainModel" "from" "I" ∈ Tw := tw_of (i := 758) (by decide +kernel) (by decide +kernel)
theorem flX6_197 : FL RX6 197 5 9 := ⟨_, rfl, by decide, w_758, rfl⟩
theorem fpX6_197 : FP RX6 197 5 9 .int := ⟨_, rfl, by decide, w_758, rfl, rfl, by decide +kernel⟩
theorem w_759 : Cond.fieldLink RX6 194 "BentPlainModel" "to" "I" ∈ Tw := tw_of (i := 759) (by decide +kernel) (by decide +kernel)
theorem flX6_194 : FL RX6 194 5 10 := ⟨_, rfl, by decide, w_759, rfl⟩
theorem fpX6_194 : FP RX6 194 5 10 .int := ⟨_, rfl, by decide, w_759, rfl, rfl, by decide +kernel⟩
theorem w_760 : Cond.fieldLink RX6 220 "BentPlainModel" "value" "I" ∈ Tw := tw_of (i := 760) (by decide +kernel) (by decide +kernel)
theorem flX6_220 : FL RX6 220 5 11 := ⟨_, rfl, by decide, w_760, rfl⟩
theorem fpX6_220 : FP RX6 220 5 11 .int := ⟨_, rfl, by decide, w_760, rfl, rfl, by decide +kernel⟩
theorem w_761 : Cond.fieldLink RX6 209 "BentPlainModel" "isWrong" "Z" ∈ Tw := tw_of (i := 761) (by decide +kernel) (by decide +kernel)
theorem flX6_209 : FL RX6 209 5 12 := ⟨_, rfl, by decide, w_761, rfl⟩
theorem fpX6_209 : FP RX6 209 5 12 .boolean := ⟨_, rfl, by decide, w_761, rfl, rfl, by decide +kernel⟩
theorem w_762 : Cond.fieldLink RX6 31 "BentPlainModel" "bitsOf" "[I" ∈ Tw := tw_of (i := 762) (by decide +kernel) (by decide +kernel)
theorem flX6_31 : FL RX6 31 5 13 := ⟨_, rfl, by decide, w_762, rfl⟩
theorem w_763 : Cond.fieldLink RX6 34 "BentPlainModel" "sizeOf" "[I" ∈ Tw := tw_of (i := 763) (by decide +kernel) (by decide +kernel)
theorem flX6_34 : FL RX6 34 5 14 := ⟨_, rfl, by decide, w_763, rfl⟩
theorem w_764 : Cond.fieldLink RX6 37 "BentPlainModel" "numbers" "[J" ∈ Tw := tw_of (i := 764) (by decide +kernel) (by decide +kernel)
theorem flX6_37 : FL RX6 37 5 15 := ⟨_, rfl, by decide, w_764, rfl⟩
theorem w_765 : Cond.fieldLink RX6 41 "BentPlainModel" "moved" "[J" ∈ Tw := tw_of (i := 765) (by decide +kernel) (by decide +kernel)
theorem flX6_41 : FL RX6 41 5 16 := ⟨_, rfl, by decide, w_765, rfl⟩
theorem w_175 : Cond.constant RX5 63 (-1000000001) ∈ Tw := tw_of (i := 175) (by decide +kernel) (by decide +kernel)
theorem w_180 : Cond.constant RX5 72 (-1000000002) ∈ Tw := tw_of (i := 180) (by decide +kernel) (by decide +kernel)
theorem w_242 : Cond.constant RX5 103 (-1000000005) ∈ Tw := tw_of (i := 242) (by decide +kernel) (by decide +kernel)
theorem w_264 : Cond.constant RX5 177 (-1000000004) ∈ Tw := tw_of (i := 264) (by decide +kernel) (by decide +kernel)
theorem w_314 : Cond.constant RX5 157 (-1000000003) ∈ Tw := tw_of (i := 314) (by decide +kernel) (by decide +kernel)
theorem w_417 : Cond.constant RJ6 265 (1431655765) ∈ Tw := tw_of (i := 417) (by decide +kernel) (by decide +kernel)
theorem w_418 : Cond.constant RJ6 266 (858993459) ∈ Tw := tw_of (i := 418) (by decide +kernel) (by decide +kernel)
theorem w_419 : Cond.constant RJ6 267 (252645135) ∈ Tw := tw_of (i := 419) (by decide +kernel) (by decide +kernel)
theorem w_461 : Cond.constant RX0 90 (1000000) ∈ Tw := tw_of (i := 461) (by decide +kernel) (by decide +kernel)
theorem w_469 : Cond.constant RX5 214 (999999) ∈ Tw := tw_of (i := 469) (by decide +kernel) (by decide +kernel)
theorem w_482 : Cond.constant RX5 226 (1000000) ∈ Tw := tw_of (i := 482) (by decide +kernel) (by decide +kernel)
theorem w_668 : Cond.constant RX5 252 (-1000000007) ∈ Tw := tw_of (i := 668) (by decide +kernel) (by decide +kernel)
theorem w_684 : Cond.constant RX5 273 (-1000000006) ∈ Tw := tw_of (i := 684) (by decide +kernel) (by decide +kernel)
theorem w_809 : Cond.constant RX6 44 (-1000000001) ∈ Tw := tw_of (i := 809) (by decide +kernel) (by decide +kernel)
theorem w_814 : Cond.constant RX6 73 (-1000000002) ∈ Tw := tw_of (i := 814) (by decide +kernel) (by decide +kernel)
theorem w_863 : Cond.constant RX6 92 (-1000000005) ∈ Tw := tw_of (i := 863) (by decide +kernel) (by decide +kernel)
theorem w_880 : Cond.constant RX6 101 (-1000000004) ∈ Tw := tw_of (i := 880) (by decide +kernel) (by decide +kernel)
theorem w_927 : Cond.constant RX6 133 (-1000000003) ∈ Tw := tw_of (i := 927) (by decide +kernel) (by decide +kernel)
theorem w_1066 : Cond.constant RX6 173 (1000000) ∈ Tw := tw_of (i := 1066) (by decide +kernel) (by decide +kernel)
theorem w_1067 : Cond.constant RX6 177 (999999) ∈ Tw := tw_of (i := 1067) (by decide +kernel) (by decide +kernel)
theorem w_1196 : Cond.constant RX6 301 (-1000000007) ∈ Tw := tw_of (i := 1196) (by decide +kernel) (by decide +kernel)
theorem w_1205 : Cond.constant RX6 302 (-1000000006) ∈ Tw := tw_of (i := 1205) (by decide +kernel) (by decide +kernel)
theorem w_431 : Cond.constantLong RJ13 314 (6148914691236517205) ∈ Tw := tw_of (i := 431) (by decide +kernel) (by decide +kernel)
theorem w_432 : Cond.constantLong RJ13 316 (3689348814741910323) ∈ Tw := tw_of (i := 432) (by decide +kernel) (by decide +kernel)
theorem w_433 : Cond.constantLong RJ13 318 (1085102592571150095) ∈ Tw := tw_of (i := 433) (by decide +kernel) (by decide +kernel)
theorem w_702 : Cond.constantLong RX5 283 (9) ∈ Tw := tw_of (i := 702) (by decide +kernel) (by decide +kernel)
theorem w_805 : Cond.constantLong RX6 67 (9) ∈ Tw := tw_of (i := 805) (by decide +kernel) (by decide +kernel)
theorem w_827 : Cond.constantLong RX6 77 (2) ∈ Tw := tw_of (i := 827) (by decide +kernel) (by decide +kernel)
theorem w_862 : Cond.constantLong RX6 49 (3) ∈ Tw := tw_of (i := 862) (by decide +kernel) (by decide +kernel)
theorem w_888 : Cond.constantLong RX6 51 (5) ∈ Tw := tw_of (i := 888) (by decide +kernel) (by decide +kernel)
theorem w_950 : Cond.constantLong RX6 137 (100) ∈ Tw := tw_of (i := 950) (by decide +kernel) (by decide +kernel)
theorem w_1080 : Cond.constantLong RX6 178 (16) ∈ Tw := tw_of (i := 1080) (by decide +kernel) (by decide +kernel)
theorem w_1089 : Cond.constantLong RX6 180 (4) ∈ Tw := tw_of (i := 1089) (by decide +kernel) (by decide +kernel)
theorem w_1113 : Cond.constantLong RX6 186 (97) ∈ Tw := tw_of (i := 1113) (by decide +kernel) (by decide +kernel)
theorem w_1114 : Cond.constantLong RX6 188 (122) ∈ Tw := tw_of (i := 1114) (by decide +kernel) (by decide +kernel)
theorem w_1118 : Cond.constantLong RX6 190 (48) ∈ Tw := tw_of (i := 1118) (by decide +kernel) (by decide +kernel)
theorem w_1119 : Cond.constantLong RX6 192 (57) ∈ Tw := tw_of (i := 1119) (by decide +kernel) (by decide +kernel)
theorem w_1132 : Cond.constantLong RX6 216 (36028797018963967) ∈ Tw := tw_of (i := 1132) (by decide +kernel) (by decide +kernel)
theorem w_1133 : Cond.constantLong RX6 218 (32) ∈ Tw := tw_of (i := 1133) (by decide +kernel) (by decide +kernel)
theorem w_1134 : Cond.constantLong RX6 231 (773205170) ∈ Tw := tw_of (i := 1134) (by decide +kernel) (by decide +kernel)
theorem w_1135 : Cond.constantLong RX6 233 (676010845682) ∈ Tw := tw_of (i := 1135) (by decide +kernel) (by decide +kernel)
theorem w_1136 : Cond.constantLong RX6 235 (20917134514) ∈ Tw := tw_of (i := 1136) (by decide +kernel) (by decide +kernel)
theorem w_1137 : Cond.constantLong RX6 237 (2553) ∈ Tw := tw_of (i := 1137) (by decide +kernel) (by decide +kernel)
theorem w_1138 : Cond.constantLong RX6 239 (102322354) ∈ Tw := tw_of (i := 1138) (by decide +kernel) (by decide +kernel)
theorem w_1139 : Cond.constantLong RX6 241 (3124) ∈ Tw := tw_of (i := 1139) (by decide +kernel) (by decide +kernel)
theorem w_1148 : Cond.constantLong RX6 266 (52) ∈ Tw := tw_of (i := 1148) (by decide +kernel) (by decide +kernel)
theorem w_1161 : Cond.constantLong RX6 246 (15190664) ∈ Tw := tw_of (i := 1161) (by decide +kernel) (by decide +kernel)
theorem w_1162 : Cond.constantLong RX6 248 (165492) ∈ Tw := tw_of (i := 1162) (by decide +kernel) (by decide +kernel)
theorem w_1163 : Cond.constantLong RX6 250 (20436616) ∈ Tw := tw_of (i := 1163) (by decide +kernel) (by decide +kernel)
theorem w_1164 : Cond.constantLong RX6 252 (759412) ∈ Tw := tw_of (i := 1164) (by decide +kernel) (by decide +kernel)
theorem w_1165 : Cond.constantLong RX6 274 (6591876) ∈ Tw := tw_of (i := 1165) (by decide +kernel) (by decide +kernel)
theorem w_1170 : Cond.constantLong RX6 257 (19387624) ∈ Tw := tw_of (i := 1170) (by decide +kernel) (by decide +kernel)
theorem w_1171 : Cond.constantLong RX6 279 (242341) ∈ Tw := tw_of (i := 1171) (by decide +kernel) (by decide +kernel)
theorem w_1180 : Cond.constantLong RX6 284 (3764) ∈ Tw := tw_of (i := 1180) (by decide +kernel) (by decide +kernel)
theorem w_1257 : Cond.constantLong RX6 322 (-1) ∈ Tw := tw_of (i := 1257) (by decide +kernel) (by decide +kernel)
theorem w_1258 : Cond.constantLong RX6 324 (6) ∈ Tw := tw_of (i := 1258) (by decide +kernel) (by decide +kernel)
theorem w_1259 : Cond.constantLong RL 170 (4294967295) ∈ Tw := tw_of (i := 1259) (by decide +kernel) (by decide +kernel)
theorem w_168 : Cond.methodLink RL 13 yX5_field ∈ Tw := tw_of (i := 168) (by decide +kernel) (by decide +kernel)
theorem w_1 : Cond.initialized RX5 ∈ Tw := tw_of (i := 1) (by decide +kernel) (by decide +kernel)
theorem w_171 : Cond.code yX5_field cX5_field 2 (some .int) ∈ Tw := tw_of (i := 171) (by decide +kernel) (by decide +kernel)
theorem w_170 : Cond.selects RX5 yX5_field yX5_field ∈ Tw := tw_of (i := 170) (by decide +kernel) (by decide +kernel)
theorem w_169 : Cond.instanceMethod yX5_field ∈ Tw := tw_of (i := 169) (by decide +kernel) (by decide +kernel)
theorem mlL_13 : MLv RL 13 kX5_field 1 := ⟨⟨w_168, w_1, w_171, by decide, by decide, by decide +kernel⟩, w_169, w_170⟩
theorem w_172 : Cond.methodLink RX5 59 yX5_isRough ∈ Tw := tw_of (i := 172) (by decide +kernel) (by decide +kernel)
theorem w_174 : Cond.code yX5_isRough cX5_isRough 1 (some .boolean) ∈ Tw := tw_of (i := 174) (by decide +kernel) (by decide +kernel)
theorem w_173 : Cond.static yX5_isRough ∈ Tw := tw_of (i := 173) (by decide +kernel) (by decide +kernel)
theorem mlX5_59 : MLs RX5 59 kX5_isRough 1 := ⟨⟨w_172, w_1, w_174, by decide, by decide, by decide +kernel⟩, w_173⟩
theorem w_176 : Cond.methodLink RX5 64 yX5_tell ∈ Tw := tw_of (i := 176) (by decide +kernel) (by decide +kernel)
theorem w_179 : Cond.code yX5_tell cX5_tell 3 (some .int) ∈ Tw := tw_of (i := 179) (by decide +kernel) (by decide +kernel)
theorem ws_mlX5_64 : Cond.selects RX5 yX5_tell yX5_tell ∈ Tw := tw_sel (q := (⟨"BentPlain", "tell", "(I)I"⟩, 12)) (i := 0) (by decide +kernel)
theorem w_178 : Cond.instanceMethod yX5_tell ∈ Tw := tw_of (i := 178) (by decide +kernel) (by decide +kernel)
theorem mlX5_64 : MLv RX5 64 kX5_tell 1 := ⟨⟨w_176, w_1, w_179, by decide, by decide, by decide +kernel⟩, w_178, ws_mlX5_64⟩
theorem w_181 : Cond.methodLink RX5 73 yX0_addField ∈ Tw := tw_of (i := 181) (by decide +kernel) (by decide +kernel)
theorem w_2 : Cond.initialized RX0 ∈ Tw := tw_of (i := 2) (by decide +kernel) (by decide +kernel)
theorem w_184 : Cond.code yX0_addField cX0_addField 4 (some .int) ∈ Tw := tw_of (i := 184) (by decide +kernel) (by decide +kernel)
theorem w_183 : Cond.selects RX0 yX0_addField yX0_addField ∈ Tw := tw_of (i := 183) (by decide +kernel) (by decide +kernel)
theorem w_182 : Cond.instanceMethod yX0_addField ∈ Tw := tw_of (i := 182) (by decide +kernel) (by decide +kernel)
theorem mlX5_73 : MLv RX5 73 kX0_addField 1 := ⟨⟨w_181, w_2, w_184, by decide, by decide, by decide +kernel⟩, w_182, w_183⟩
theorem w_188 : Cond.methodLink RL 18 yX5_of ∈ Tw := tw_of (i := 188) (by decide +kernel) (by decide +kernel)
theorem w_191 : Cond.code yX5_of cX5_of 3 (some .int) ∈ Tw := tw_of (i := 191) (by decide +kernel) (by decide +kernel)
theorem w_190 : Cond.selects RX5 yX5_of yX5_of ∈ Tw := tw_of (i := 190) (by decide +kernel) (by decide +kernel)
theorem w_189 : Cond.instanceMethod yX5_of ∈ Tw := tw_of (i := 189) (by decide +kernel) (by decide +kernel)
theorem mlL_18 : MLv RL 18 kX5_of 2 := ⟨⟨w_188, w_1, w_191, by decide, by decide, by decide +kernel⟩, w_189, w_190⟩
theorem w_192 : Cond.methodLink RX5 76 yX0_hasField ∈ Tw := tw_of (i := 192) (by decide +kernel) (by decide +kernel)
theorem w_195 : Cond.code yX0_hasField cX0_hasField 2 (some .boolean) ∈ Tw := tw_of (i := 195) (by decide +kernel) (by decide +kernel)
theorem w_194 : Cond.selects RX0 yX0_hasField yX0_hasField ∈ Tw := tw_of (i := 194) (by decide +kernel) (by decide +kernel)
theorem w_193 : Cond.instanceMethod yX0_hasField ∈ Tw := tw_of (i := 193) (by decide +kernel) (by decide +kernel)
theorem mlX5_76 : MLv RX5 76 kX0_hasField 1 := ⟨⟨w_192, w_2, w_195, by decide, by decide, by decide +kernel⟩, w_193, w_194⟩
theorem w_196 : Cond.methodLink RX5 79 yX0_roughOf ∈ Tw := tw_of (i := 196) (by decide +kernel) (by decide +kernel)
theorem w_199 : Cond.code yX0_roughOf cX0_roughOf 2 (some .int) ∈ Tw := tw_of (i := 199) (by decide +kernel) (by decide +kernel)
theorem w_198 : Cond.selects RX0 yX0_roughOf yX0_roughOf ∈ Tw := tw_of (i := 198) (by decide +kernel) (by decide +kernel)
theorem w_197 : Cond.instanceMethod yX0_roughOf ∈ Tw := tw_of (i := 197) (by decide +kernel) (by decide +kernel)
theorem mlX5_79 : MLv RX5 79 kX0_roughOf 1 := ⟨⟨w_196, w_2, w_199, by decide, by decide, by decide +kernel⟩, w_197, w_198⟩
theorem w_200 : Cond.methodLink RX0 42 yX0_hasField ∈ Tw := tw_of (i := 200) (by decide +kernel) (by decide +kernel)
theorem mlX0_42 : MLv RX0 42 kX0_hasField 1 := ⟨⟨w_200, w_2, w_195, by decide, by decide, by decide +kernel⟩, w_193, w_194⟩
theorem w_201 : Cond.methodLink RX5 82 yX0_gluedSidesOf ∈ Tw := tw_of (i := 201) (by decide +kernel) (by decide +kernel)
theorem w_204 : Cond.code yX0_gluedSidesOf cX0_gluedSidesOf 4 (some .int) ∈ Tw := tw_of (i := 204) (by decide +kernel) (by decide +kernel)
theorem w_203 : Cond.selects RX0 yX0_gluedSidesOf yX0_gluedSidesOf ∈ Tw := tw_of (i := 203) (by decide +kernel) (by decide +kernel)
theorem w_202 : Cond.instanceMethod yX0_gluedSidesOf ∈ Tw := tw_of (i := 202) (by decide +kernel) (by decide +kernel)
theorem mlX5_82 : MLv RX5 82 kX0_gluedSidesOf 1 := ⟨⟨w_201, w_2, w_204, by decide, by decide, by decide +kernel⟩, w_202, w_203⟩
theorem w_205 : Cond.methodLink RX0 62 yX0_isFree ∈ Tw := tw_of (i := 205) (by decide +kernel) (by decide +kernel)
theorem w_208 : Cond.code yX0_isFree cX0_isFree 2 (some .boolean) ∈ Tw := tw_of (i := 208) (by decide +kernel) (by decide +kernel)
theorem w_207 : Cond.selects RX0 yX0_isFree yX0_isFree ∈ Tw := tw_of (i := 207) (by decide +kernel) (by decide +kernel)
theorem w_206 : Cond.instanceMethod yX0_isFree ∈ Tw := tw_of (i := 206) (by decide +kernel) (by decide +kernel)
theorem mlX0_62 : MLv RX0 62 kX0_isFree 1 := ⟨⟨w_205, w_2, w_208, by decide, by decide, by decide +kernel⟩, w_206, w_207⟩
theorem w_209 : Cond.methodLink RX0 58 yX0_gluedTo ∈ Tw := tw_of (i := 209) (by decide +kernel) (by decide +kernel)
theorem w_212 : Cond.code yX0_gluedTo cX0_gluedTo 2 (some .int) ∈ Tw := tw_of (i := 212) (by decide +kernel) (by decide +kernel)
theorem w_211 : Cond.selects RX0 yX0_gluedTo yX0_gluedTo ∈ Tw := tw_of (i := 211) (by decide +kernel) (by decide +kernel)
theorem w_210 : Cond.instanceMethod yX0_gluedTo ∈ Tw := tw_of (i := 210) (by decide +kernel) (by decide +kernel)
theorem mlX0_58 : MLv RX0 58 kX0_gluedTo 1 := ⟨⟨w_209, w_2, w_212, by decide, by decide, by decide +kernel⟩, w_210, w_211⟩
theorem w_213 : Cond.methodLink RX0 54 yX0_ways ∈ Tw := tw_of (i := 213) (by decide +kernel) (by decide +kernel)
theorem w_216 : Cond.code yX0_ways cX0_ways 1 (some .int) ∈ Tw := tw_of (i := 216) (by decide +kernel) (by decide +kernel)
theorem w_215 : Cond.selects RX0 yX0_ways yX0_ways ∈ Tw := tw_of (i := 215) (by decide +kernel) (by decide +kernel)
theorem w_214 : Cond.instanceMethod yX0_ways ∈ Tw := tw_of (i := 214) (by decide +kernel) (by decide +kernel)
theorem mlX0_54 : MLv RX0 54 kX0_ways 0 := ⟨⟨w_213, w_2, w_216, by decide, by decide, by decide +kernel⟩, w_214, w_215⟩
theorem w_217 : Cond.methodLink RX5 85 yX0_walkersOn ∈ Tw := tw_of (i := 217) (by decide +kernel) (by decide +kernel)
theorem w_220 : Cond.code yX0_walkersOn cX0_walkersOn 4 (some .int) ∈ Tw := tw_of (i := 220) (by decide +kernel) (by decide +kernel)
theorem w_219 : Cond.selects RX0 yX0_walkersOn yX0_walkersOn ∈ Tw := tw_of (i := 219) (by decide +kernel) (by decide +kernel)
theorem w_218 : Cond.instanceMethod yX0_walkersOn ∈ Tw := tw_of (i := 218) (by decide +kernel) (by decide +kernel)
theorem mlX5_85 : MLv RX5 85 kX0_walkersOn 1 := ⟨⟨w_217, w_2, w_220, by decide, by decide, by decide +kernel⟩, w_218, w_219⟩
theorem w_224 : Cond.methodLink RL 23 yX5_rough ∈ Tw := tw_of (i := 224) (by decide +kernel) (by decide +kernel)
theorem w_227 : Cond.code yX5_rough cX5_rough 4 (some .int) ∈ Tw := tw_of (i := 227) (by decide +kernel) (by decide +kernel)
theorem w_226 : Cond.selects RX5 yX5_rough yX5_rough ∈ Tw := tw_of (i := 226) (by decide +kernel) (by decide +kernel)
theorem w_225 : Cond.instanceMethod yX5_rough ∈ Tw := tw_of (i := 225) (by decide +kernel) (by decide +kernel)
theorem mlL_23 : MLv RL 23 kX5_rough 2 := ⟨⟨w_224, w_1, w_227, by decide, by decide, by decide +kernel⟩, w_225, w_226⟩
theorem w_228 : Cond.methodLink RX5 88 yX0_makeRough ∈ Tw := tw_of (i := 228) (by decide +kernel) (by decide +kernel)
theorem w_231 : Cond.code yX0_makeRough cX0_makeRough 3 none ∈ Tw := tw_of (i := 231) (by decide +kernel) (by decide +kernel)
theorem w_230 : Cond.selects RX0 yX0_makeRough yX0_makeRough ∈ Tw := tw_of (i := 230) (by decide +kernel) (by decide +kernel)
theorem w_229 : Cond.instanceMethod yX0_makeRough ∈ Tw := tw_of (i := 229) (by decide +kernel) (by decide +kernel)
theorem mlX5_88 : MLv RX5 88 kX0_makeRough 2 := ⟨⟨w_228, w_2, w_231, by decide, by decide, by decide +kernel⟩, w_229, w_230⟩
theorem w_232 : Cond.methodLink RL 27 yX5_glue ∈ Tw := tw_of (i := 232) (by decide +kernel) (by decide +kernel)
theorem w_235 : Cond.code yX5_glue cX5_glue 7 (some .int) ∈ Tw := tw_of (i := 235) (by decide +kernel) (by decide +kernel)
theorem w_234 : Cond.selects RX5 yX5_glue yX5_glue ∈ Tw := tw_of (i := 234) (by decide +kernel) (by decide +kernel)
theorem w_233 : Cond.instanceMethod yX5_glue ∈ Tw := tw_of (i := 233) (by decide +kernel) (by decide +kernel)
theorem mlL_27 : MLv RL 27 kX5_glue 4 := ⟨⟨w_232, w_1, w_235, by decide, by decide, by decide +kernel⟩, w_233, w_234⟩
theorem w_236 : Cond.methodLink RX5 92 yX0_hasWay ∈ Tw := tw_of (i := 236) (by decide +kernel) (by decide +kernel)
theorem w_239 : Cond.code yX0_hasWay cX0_hasWay 3 (some .boolean) ∈ Tw := tw_of (i := 239) (by decide +kernel) (by decide +kernel)
theorem w_238 : Cond.selects RX0 yX0_hasWay yX0_hasWay ∈ Tw := tw_of (i := 238) (by decide +kernel) (by decide +kernel)
theorem w_237 : Cond.instanceMethod yX0_hasWay ∈ Tw := tw_of (i := 237) (by decide +kernel) (by decide +kernel)
theorem mlX5_92 : MLv RX5 92 kX0_hasWay 2 := ⟨⟨w_236, w_2, w_239, by decide, by decide, by decide +kernel⟩, w_237, w_238⟩
theorem w_240 : Cond.methodLink RX5 96 yX5_wayOf ∈ Tw := tw_of (i := 240) (by decide +kernel) (by decide +kernel)
theorem w_187 : Cond.code yX5_wayOf cX5_wayOf 2 (some .int) ∈ Tw := tw_of (i := 187) (by decide +kernel) (by decide +kernel)
theorem w_186 : Cond.static yX5_wayOf ∈ Tw := tw_of (i := 186) (by decide +kernel) (by decide +kernel)
theorem mlX5_96 : MLs RX5 96 kX5_wayOf 2 := ⟨⟨w_240, w_1, w_187, by decide, by decide, by decide +kernel⟩, w_186⟩
theorem w_241 : Cond.methodLink RX5 100 yX0_isFree ∈ Tw := tw_of (i := 241) (by decide +kernel) (by decide +kernel)
theorem mlX5_100 : MLv RX5 100 kX0_isFree 1 := ⟨⟨w_241, w_2, w_208, by decide, by decide, by decide +kernel⟩, w_206, w_207⟩
theorem w_243 : Cond.methodLink RX5 104 yX0_join ∈ Tw := tw_of (i := 243) (by decide +kernel) (by decide +kernel)
theorem w_246 : Cond.code yX0_join cX0_join 3 none ∈ Tw := tw_of (i := 246) (by decide +kernel) (by decide +kernel)
theorem w_245 : Cond.selects RX0 yX0_join yX0_join ∈ Tw := tw_of (i := 245) (by decide +kernel) (by decide +kernel)
theorem w_244 : Cond.instanceMethod yX0_join ∈ Tw := tw_of (i := 244) (by decide +kernel) (by decide +kernel)
theorem mlX5_104 : MLv RX5 104 kX0_join 2 := ⟨⟨w_243, w_2, w_246, by decide, by decide, by decide +kernel⟩, w_244, w_245⟩
theorem w_247 : Cond.methodLink RL 32 yX5_cut ∈ Tw := tw_of (i := 247) (by decide +kernel) (by decide +kernel)
theorem w_250 : Cond.code yX5_cut cX5_cut 5 (some .int) ∈ Tw := tw_of (i := 250) (by decide +kernel) (by decide +kernel)
theorem w_249 : Cond.selects RX5 yX5_cut yX5_cut ∈ Tw := tw_of (i := 249) (by decide +kernel) (by decide +kernel)
theorem w_248 : Cond.instanceMethod yX5_cut ∈ Tw := tw_of (i := 248) (by decide +kernel) (by decide +kernel)
theorem mlL_32 : MLv RL 32 kX5_cut 2 := ⟨⟨w_247, w_1, w_250, by decide, by decide, by decide +kernel⟩, w_248, w_249⟩
theorem w_251 : Cond.methodLink RX5 107 yX0_gluedTo ∈ Tw := tw_of (i := 251) (by decide +kernel) (by decide +kernel)
theorem mlX5_107 : MLv RX5 107 kX0_gluedTo 1 := ⟨⟨w_251, w_2, w_212, by decide, by decide, by decide +kernel⟩, w_210, w_211⟩
theorem w_252 : Cond.methodLink RX5 110 yX0_sever ∈ Tw := tw_of (i := 252) (by decide +kernel) (by decide +kernel)
theorem w_255 : Cond.code yX0_sever cX0_sever 3 none ∈ Tw := tw_of (i := 255) (by decide +kernel) (by decide +kernel)
theorem w_254 : Cond.selects RX0 yX0_sever yX0_sever ∈ Tw := tw_of (i := 254) (by decide +kernel) (by decide +kernel)
theorem w_253 : Cond.instanceMethod yX0_sever ∈ Tw := tw_of (i := 253) (by decide +kernel) (by decide +kernel)
theorem mlX5_110 : MLv RX5 110 kX0_sever 1 := ⟨⟨w_252, w_2, w_255, by decide, by decide, by decide +kernel⟩, w_253, w_254⟩
theorem w_256 : Cond.methodLink RL 36 yX5_over ∈ Tw := tw_of (i := 256) (by decide +kernel) (by decide +kernel)
theorem w_259 : Cond.code yX5_over cX5_over 3 (some .int) ∈ Tw := tw_of (i := 259) (by decide +kernel) (by decide +kernel)
theorem w_258 : Cond.selects RX5 yX5_over yX5_over ∈ Tw := tw_of (i := 258) (by decide +kernel) (by decide +kernel)
theorem w_257 : Cond.instanceMethod yX5_over ∈ Tw := tw_of (i := 257) (by decide +kernel) (by decide +kernel)
theorem mlL_36 : MLv RL 36 kX5_over 2 := ⟨⟨w_256, w_1, w_259, by decide, by decide, by decide +kernel⟩, w_257, w_258⟩
theorem w_260 : Cond.methodLink RX5 114 yX5_numberOrNone ∈ Tw := tw_of (i := 260) (by decide +kernel) (by decide +kernel)
theorem w_263 : Cond.code yX5_numberOrNone cX5_numberOrNone 2 (some .int) ∈ Tw := tw_of (i := 263) (by decide +kernel) (by decide +kernel)
theorem ws_mlX5_114 : Cond.selects RX5 yX5_numberOrNone yX5_numberOrNone ∈ Tw := tw_sel (q := (⟨"BentPlain", "numberOrNone", "(I)I"⟩, 12)) (i := 1) (by decide +kernel)
theorem w_262 : Cond.instanceMethod yX5_numberOrNone ∈ Tw := tw_of (i := 262) (by decide +kernel) (by decide +kernel)
theorem mlX5_114 : MLv RX5 114 kX5_numberOrNone 1 := ⟨⟨w_260, w_1, w_263, by decide, by decide, by decide +kernel⟩, w_262, ws_mlX5_114⟩
theorem w_265 : Cond.methodLink RL 40 yX5_walker ∈ Tw := tw_of (i := 265) (by decide +kernel) (by decide +kernel)
theorem w_268 : Cond.code yX5_walker cX5_walker 4 (some .int) ∈ Tw := tw_of (i := 268) (by decide +kernel) (by decide +kernel)
theorem w_267 : Cond.selects RX5 yX5_walker yX5_walker ∈ Tw := tw_of (i := 267) (by decide +kernel) (by decide +kernel)
theorem w_266 : Cond.instanceMethod yX5_walker ∈ Tw := tw_of (i := 266) (by decide +kernel) (by decide +kernel)
theorem mlL_40 : MLv RL 40 kX5_walker 3 := ⟨⟨w_265, w_1, w_268, by decide, by decide, by decide +kernel⟩, w_266, w_267⟩
theorem w_269 : Cond.methodLink RX5 117 yX5_isKind ∈ Tw := tw_of (i := 269) (by decide +kernel) (by decide +kernel)
theorem w_271 : Cond.code yX5_isKind cX5_isKind 1 (some .boolean) ∈ Tw := tw_of (i := 271) (by decide +kernel) (by decide +kernel)
theorem w_270 : Cond.static yX5_isKind ∈ Tw := tw_of (i := 270) (by decide +kernel) (by decide +kernel)
theorem mlX5_117 : MLs RX5 117 kX5_isKind 1 := ⟨⟨w_269, w_1, w_271, by decide, by decide, by decide +kernel⟩, w_270⟩
theorem w_272 : Cond.methodLink RX5 123 yX0_addWalker ∈ Tw := tw_of (i := 272) (by decide +kernel) (by decide +kernel)
theorem w_275 : Cond.code yX0_addWalker cX0_addWalker 3 (some .int) ∈ Tw := tw_of (i := 275) (by decide +kernel) (by decide +kernel)
theorem w_274 : Cond.selects RX0 yX0_addWalker yX0_addWalker ∈ Tw := tw_of (i := 274) (by decide +kernel) (by decide +kernel)
theorem w_273 : Cond.instanceMethod yX0_addWalker ∈ Tw := tw_of (i := 273) (by decide +kernel) (by decide +kernel)
theorem mlX5_123 : MLv RX5 123 kX0_addWalker 2 := ⟨⟨w_272, w_2, w_275, by decide, by decide, by decide +kernel⟩, w_273, w_274⟩
theorem w_276 : Cond.methodLink RX0 50 yX4_begin ∈ Tw := tw_of (i := 276) (by decide +kernel) (by decide +kernel)
theorem w_3 : Cond.initialized RX4 ∈ Tw := tw_of (i := 3) (by decide +kernel) (by decide +kernel)
theorem w_279 : Cond.code yX4_begin cX4_begin 3 none ∈ Tw := tw_of (i := 279) (by decide +kernel) (by decide +kernel)
theorem w_278 : Cond.selects RX4 yX4_begin yX4_begin ∈ Tw := tw_of (i := 278) (by decide +kernel) (by decide +kernel)
theorem w_277 : Cond.instanceMethod yX4_begin ∈ Tw := tw_of (i := 277) (by decide +kernel) (by decide +kernel)
theorem mlX0_50 : MLv RX0 50 kX4_begin 2 := ⟨⟨w_276, w_3, w_279, by decide, by decide, by decide +kernel⟩, w_277, w_278⟩
theorem w_280 : Cond.methodLink RL 45 yX5_its ∈ Tw := tw_of (i := 280) (by decide +kernel) (by decide +kernel)
theorem w_283 : Cond.code yX5_its cX5_its 4 (some .int) ∈ Tw := tw_of (i := 283) (by decide +kernel) (by decide +kernel)
theorem w_282 : Cond.selects RX5 yX5_its yX5_its ∈ Tw := tw_of (i := 282) (by decide +kernel) (by decide +kernel)
theorem w_281 : Cond.instanceMethod yX5_its ∈ Tw := tw_of (i := 281) (by decide +kernel) (by decide +kernel)
theorem mlL_45 : MLv RL 45 kX5_its 2 := ⟨⟨w_280, w_1, w_283, by decide, by decide, by decide +kernel⟩, w_281, w_282⟩
theorem w_284 : Cond.methodLink RX5 126 yX0_hasWalker ∈ Tw := tw_of (i := 284) (by decide +kernel) (by decide +kernel)
theorem w_287 : Cond.code yX0_hasWalker cX0_hasWalker 2 (some .boolean) ∈ Tw := tw_of (i := 287) (by decide +kernel) (by decide +kernel)
theorem w_286 : Cond.selects RX0 yX0_hasWalker yX0_hasWalker ∈ Tw := tw_of (i := 286) (by decide +kernel) (by decide +kernel)
theorem w_285 : Cond.instanceMethod yX0_hasWalker ∈ Tw := tw_of (i := 285) (by decide +kernel) (by decide +kernel)
theorem mlX5_126 : MLv RX5 126 kX0_hasWalker 1 := ⟨⟨w_284, w_2, w_287, by decide, by decide, by decide +kernel⟩, w_285, w_286⟩
theorem w_288 : Cond.methodLink RX5 139 yX5_fieldOf ∈ Tw := tw_of (i := 288) (by decide +kernel) (by decide +kernel)
theorem w_223 : Cond.code yX5_fieldOf cX5_fieldOf 1 (some .int) ∈ Tw := tw_of (i := 223) (by decide +kernel) (by decide +kernel)
theorem w_222 : Cond.static yX5_fieldOf ∈ Tw := tw_of (i := 222) (by decide +kernel) (by decide +kernel)
theorem mlX5_139 : MLs RX5 139 kX5_fieldOf 1 := ⟨⟨w_288, w_1, w_223, by decide, by decide, by decide +kernel⟩, w_222⟩
theorem w_289 : Cond.methodLink RX5 142 yX5_headingOf ∈ Tw := tw_of (i := 289) (by decide +kernel) (by decide +kernel)
theorem w_291 : Cond.code yX5_headingOf cX5_headingOf 1 (some .int) ∈ Tw := tw_of (i := 291) (by decide +kernel) (by decide +kernel)
theorem w_290 : Cond.static yX5_headingOf ∈ Tw := tw_of (i := 290) (by decide +kernel) (by decide +kernel)
theorem mlX5_142 : MLs RX5 142 kX5_headingOf 1 := ⟨⟨w_289, w_1, w_291, by decide, by decide, by decide +kernel⟩, w_290⟩
theorem w_295 : Cond.methodLink RX4 54 yX4_above ∈ Tw := tw_of (i := 295) (by decide +kernel) (by decide +kernel)
theorem w_297 : Cond.code yX4_above cX4_above 1 (some .int) ∈ Tw := tw_of (i := 297) (by decide +kernel) (by decide +kernel)
theorem w_296 : Cond.static yX4_above ∈ Tw := tw_of (i := 296) (by decide +kernel) (by decide +kernel)
theorem mlX4_54 : MLs RX4 54 kX4_above 1 := ⟨⟨w_295, w_3, w_297, by decide, by decide, by decide +kernel⟩, w_296⟩
theorem w_298 : Cond.methodLink RX4 43 yX4_payOf ∈ Tw := tw_of (i := 298) (by decide +kernel) (by decide +kernel)
theorem w_294 : Cond.code yX4_payOf cX4_payOf 2 (some .int) ∈ Tw := tw_of (i := 294) (by decide +kernel) (by decide +kernel)
theorem w_293 : Cond.static yX4_payOf ∈ Tw := tw_of (i := 293) (by decide +kernel) (by decide +kernel)
theorem mlX4_43 : MLs RX4 43 kX4_payOf 2 := ⟨⟨w_298, w_3, w_294, by decide, by decide, by decide +kernel⟩, w_293⟩
theorem w_299 : Cond.methodLink RL 49 yX5_place ∈ Tw := tw_of (i := 299) (by decide +kernel) (by decide +kernel)
theorem w_302 : Cond.code yX5_place cX5_place 6 (some .int) ∈ Tw := tw_of (i := 302) (by decide +kernel) (by decide +kernel)
theorem w_301 : Cond.selects RX5 yX5_place yX5_place ∈ Tw := tw_of (i := 301) (by decide +kernel) (by decide +kernel)
theorem w_300 : Cond.instanceMethod yX5_place ∈ Tw := tw_of (i := 300) (by decide +kernel) (by decide +kernel)
theorem mlL_49 : MLv RL 49 kX5_place 3 := ⟨⟨w_299, w_1, w_302, by decide, by decide, by decide +kernel⟩, w_300, w_301⟩
theorem w_303 : Cond.methodLink RL 53 yX5_turn ∈ Tw := tw_of (i := 303) (by decide +kernel) (by decide +kernel)
theorem w_306 : Cond.code yX5_turn cX5_turn 5 (some .int) ∈ Tw := tw_of (i := 306) (by decide +kernel) (by decide +kernel)
theorem w_305 : Cond.selects RX5 yX5_turn yX5_turn ∈ Tw := tw_of (i := 305) (by decide +kernel) (by decide +kernel)
theorem w_304 : Cond.instanceMethod yX5_turn ∈ Tw := tw_of (i := 304) (by decide +kernel) (by decide +kernel)
theorem mlL_53 : MLv RL 53 kX5_turn 2 := ⟨⟨w_303, w_1, w_306, by decide, by decide, by decide +kernel⟩, w_304, w_305⟩
theorem w_307 : Cond.methodLink RL 57 yX5_as ∈ Tw := tw_of (i := 307) (by decide +kernel) (by decide +kernel)
theorem w_310 : Cond.code yX5_as cX5_as 4 (some .int) ∈ Tw := tw_of (i := 310) (by decide +kernel) (by decide +kernel)
theorem w_309 : Cond.selects RX5 yX5_as yX5_as ∈ Tw := tw_of (i := 309) (by decide +kernel) (by decide +kernel)
theorem w_308 : Cond.instanceMethod yX5_as ∈ Tw := tw_of (i := 308) (by decide +kernel) (by decide +kernel)
theorem mlL_57 : MLv RL 57 kX5_as 2 := ⟨⟨w_307, w_1, w_310, by decide, by decide, by decide +kernel⟩, w_308, w_309⟩
theorem w_311 : Cond.methodLink RX5 154 yX4_isUnder ∈ Tw := tw_of (i := 311) (by decide +kernel) (by decide +kernel)
theorem w_313 : Cond.code yX4_isUnder cX4_isUnder 4 (some .boolean) ∈ Tw := tw_of (i := 313) (by decide +kernel) (by decide +kernel)
theorem w_312 : Cond.static yX4_isUnder ∈ Tw := tw_of (i := 312) (by decide +kernel) (by decide +kernel)
theorem mlX5_154 : MLs RX5 154 kX4_isUnder 2 := ⟨⟨w_311, w_3, w_313, by decide, by decide, by decide +kernel⟩, w_312⟩
theorem w_315 : Cond.methodLink RL 61 yX5_step ∈ Tw := tw_of (i := 315) (by decide +kernel) (by decide +kernel)
theorem w_318 : Cond.code yX5_step cX5_step 3 (some .int) ∈ Tw := tw_of (i := 318) (by decide +kernel) (by decide +kernel)
theorem w_317 : Cond.selects RX5 yX5_step yX5_step ∈ Tw := tw_of (i := 317) (by decide +kernel) (by decide +kernel)
theorem w_316 : Cond.instanceMethod yX5_step ∈ Tw := tw_of (i := 316) (by decide +kernel) (by decide +kernel)
theorem mlL_61 : MLv RL 61 kX5_step 1 := ⟨⟨w_315, w_1, w_318, by decide, by decide, by decide +kernel⟩, w_316, w_317⟩
theorem w_319 : Cond.methodLink RX5 158 yX4_move ∈ Tw := tw_of (i := 319) (by decide +kernel) (by decide +kernel)
theorem w_322 : Cond.code yX4_move cX4_move 4 none ∈ Tw := tw_of (i := 322) (by decide +kernel) (by decide +kernel)
theorem w_321 : Cond.selects RX4 yX4_move yX4_move ∈ Tw := tw_of (i := 321) (by decide +kernel) (by decide +kernel)
theorem w_320 : Cond.instanceMethod yX4_move ∈ Tw := tw_of (i := 320) (by decide +kernel) (by decide +kernel)
theorem mlX5_158 : MLv RX5 158 kX4_move 1 := ⟨⟨w_319, w_3, w_322, by decide, by decide, by decide +kernel⟩, w_320, w_321⟩
theorem w_323 : Cond.methodLink RX4 24 yX0_goOn ∈ Tw := tw_of (i := 323) (by decide +kernel) (by decide +kernel)
theorem w_326 : Cond.code yX0_goOn cX0_goOn 3 (some .int) ∈ Tw := tw_of (i := 326) (by decide +kernel) (by decide +kernel)
theorem w_325 : Cond.selects RX0 yX0_goOn yX0_goOn ∈ Tw := tw_of (i := 325) (by decide +kernel) (by decide +kernel)
theorem w_324 : Cond.instanceMethod yX0_goOn ∈ Tw := tw_of (i := 324) (by decide +kernel) (by decide +kernel)
theorem mlX4_24 : MLv RX4 24 kX0_goOn 1 := ⟨⟨w_323, w_2, w_326, by decide, by decide, by decide +kernel⟩, w_324, w_325⟩
theorem w_330 : Cond.methodLink RX4 30 yX4_quartersAtBump ∈ Tw := tw_of (i := 330) (by decide +kernel) (by decide +kernel)
theorem w_332 : Cond.code yX4_quartersAtBump cX4_quartersAtBump 1 (some .int) ∈ Tw := tw_of (i := 332) (by decide +kernel) (by decide +kernel)
theorem w_331 : Cond.static yX4_quartersAtBump ∈ Tw := tw_of (i := 331) (by decide +kernel) (by decide +kernel)
theorem mlX4_30 : MLs RX4 30 kX4_quartersAtBump 1 := ⟨⟨w_330, w_3, w_332, by decide, by decide, by decide +kernel⟩, w_331⟩
theorem w_335 : Cond.methodLink RX4 40 yX0_roughOf ∈ Tw := tw_of (i := 335) (by decide +kernel) (by decide +kernel)
theorem mlX4_40 : MLv RX4 40 kX0_roughOf 1 := ⟨⟨w_335, w_2, w_199, by decide, by decide, by decide +kernel⟩, w_197, w_198⟩
theorem w_336 : Cond.methodLink RX4 46 yX4_quartersOnComing ∈ Tw := tw_of (i := 336) (by decide +kernel) (by decide +kernel)
theorem w_338 : Cond.code yX4_quartersOnComing cX4_quartersOnComing 3 (some .int) ∈ Tw := tw_of (i := 338) (by decide +kernel) (by decide +kernel)
theorem w_337 : Cond.static yX4_quartersOnComing ∈ Tw := tw_of (i := 337) (by decide +kernel) (by decide +kernel)
theorem mlX4_46 : MLs RX4 46 kX4_quartersOnComing 3 := ⟨⟨w_336, w_3, w_338, by decide, by decide, by decide +kernel⟩, w_337⟩
theorem w_339 : Cond.methodLink RL 65 yX5_steps ∈ Tw := tw_of (i := 339) (by decide +kernel) (by decide +kernel)
theorem w_342 : Cond.code yX5_steps cX5_steps 3 (some .int) ∈ Tw := tw_of (i := 342) (by decide +kernel) (by decide +kernel)
theorem w_341 : Cond.selects RX5 yX5_steps yX5_steps ∈ Tw := tw_of (i := 341) (by decide +kernel) (by decide +kernel)
theorem w_340 : Cond.instanceMethod yX5_steps ∈ Tw := tw_of (i := 340) (by decide +kernel) (by decide +kernel)
theorem mlL_65 : MLv RL 65 kX5_steps 1 := ⟨⟨w_339, w_1, w_342, by decide, by decide, by decide +kernel⟩, w_340, w_341⟩
theorem w_343 : Cond.methodLink RX5 162 yX4_moveOften ∈ Tw := tw_of (i := 343) (by decide +kernel) (by decide +kernel)
theorem w_346 : Cond.code yX4_moveOften cX4_moveOften 4 none ∈ Tw := tw_of (i := 346) (by decide +kernel) (by decide +kernel)
theorem w_345 : Cond.selects RX4 yX4_moveOften yX4_moveOften ∈ Tw := tw_of (i := 345) (by decide +kernel) (by decide +kernel)
theorem w_344 : Cond.instanceMethod yX4_moveOften ∈ Tw := tw_of (i := 344) (by decide +kernel) (by decide +kernel)
theorem mlX5_162 : MLv RX5 162 kX4_moveOften 2 := ⟨⟨w_343, w_3, w_346, by decide, by decide, by decide +kernel⟩, w_344, w_345⟩
theorem w_347 : Cond.methodLink RX4 50 yX4_move ∈ Tw := tw_of (i := 347) (by decide +kernel) (by decide +kernel)
theorem mlX4_50 : MLv RX4 50 kX4_move 1 := ⟨⟨w_347, w_3, w_322, by decide, by decide, by decide +kernel⟩, w_320, w_321⟩
theorem w_348 : Cond.methodLink RX5 166 yX0_milesOfAll ∈ Tw := tw_of (i := 348) (by decide +kernel) (by decide +kernel)
theorem w_351 : Cond.code yX0_milesOfAll cX0_milesOfAll 3 (some .int) ∈ Tw := tw_of (i := 351) (by decide +kernel) (by decide +kernel)
theorem w_350 : Cond.selects RX0 yX0_milesOfAll yX0_milesOfAll ∈ Tw := tw_of (i := 350) (by decide +kernel) (by decide +kernel)
theorem w_349 : Cond.instanceMethod yX0_milesOfAll ∈ Tw := tw_of (i := 349) (by decide +kernel) (by decide +kernel)
theorem mlX5_166 : MLv RX5 166 kX0_milesOfAll 0 := ⟨⟨w_348, w_2, w_351, by decide, by decide, by decide +kernel⟩, w_349, w_350⟩
theorem w_352 : Cond.methodLink RL 69 yX5_on ∈ Tw := tw_of (i := 352) (by decide +kernel) (by decide +kernel)
theorem w_355 : Cond.code yX5_on cX5_on 4 (some .int) ∈ Tw := tw_of (i := 355) (by decide +kernel) (by decide +kernel)
theorem w_354 : Cond.selects RX5 yX5_on yX5_on ∈ Tw := tw_of (i := 354) (by decide +kernel) (by decide +kernel)
theorem w_353 : Cond.instanceMethod yX5_on ∈ Tw := tw_of (i := 353) (by decide +kernel) (by decide +kernel)
theorem mlL_69 : MLv RL 69 kX5_on 3 := ⟨⟨w_352, w_1, w_355, by decide, by decide, by decide +kernel⟩, w_353, w_354⟩
theorem w_356 : Cond.methodLink RX5 170 yX5_isStepsOn ∈ Tw := tw_of (i := 356) (by decide +kernel) (by decide +kernel)
theorem w_358 : Cond.code yX5_isStepsOn cX5_isStepsOn 1 (some .boolean) ∈ Tw := tw_of (i := 358) (by decide +kernel) (by decide +kernel)
theorem w_357 : Cond.static yX5_isStepsOn ∈ Tw := tw_of (i := 357) (by decide +kernel) (by decide +kernel)
theorem mlX5_170 : MLs RX5 170 kX5_isStepsOn 1 := ⟨⟨w_356, w_1, w_358, by decide, by decide, by decide +kernel⟩, w_357⟩
theorem w_359 : Cond.methodLink RX5 173 yX4_become ∈ Tw := tw_of (i := 359) (by decide +kernel) (by decide +kernel)
theorem w_362 : Cond.code yX4_become cX4_become 2 none ∈ Tw := tw_of (i := 362) (by decide +kernel) (by decide +kernel)
theorem w_361 : Cond.selects RX4 yX4_become yX4_become ∈ Tw := tw_of (i := 361) (by decide +kernel) (by decide +kernel)
theorem w_360 : Cond.instanceMethod yX4_become ∈ Tw := tw_of (i := 360) (by decide +kernel) (by decide +kernel)
theorem mlX5_173 : MLv RX5 173 kX4_become 1 := ⟨⟨w_359, w_3, w_362, by decide, by decide, by decide +kernel⟩, w_360, w_361⟩
theorem w_363 : Cond.methodLink RL 73 yX5_when ∈ Tw := tw_of (i := 363) (by decide +kernel) (by decide +kernel)
theorem w_366 : Cond.code yX5_when cX5_when 4 (some .int) ∈ Tw := tw_of (i := 366) (by decide +kernel) (by decide +kernel)
theorem w_365 : Cond.selects RX5 yX5_when yX5_when ∈ Tw := tw_of (i := 365) (by decide +kernel) (by decide +kernel)
theorem w_364 : Cond.instanceMethod yX5_when ∈ Tw := tw_of (i := 364) (by decide +kernel) (by decide +kernel)
theorem mlL_73 : MLv RL 73 kX5_when 2 := ⟨⟨w_363, w_1, w_366, by decide, by decide, by decide +kernel⟩, w_364, w_365⟩
theorem w_367 : Cond.methodLink RL 77 yX5_back ∈ Tw := tw_of (i := 367) (by decide +kernel) (by decide +kernel)
theorem w_370 : Cond.code yX5_back cX5_back 4 (some .int) ∈ Tw := tw_of (i := 370) (by decide +kernel) (by decide +kernel)
theorem w_369 : Cond.selects RX5 yX5_back yX5_back ∈ Tw := tw_of (i := 369) (by decide +kernel) (by decide +kernel)
theorem w_368 : Cond.instanceMethod yX5_back ∈ Tw := tw_of (i := 368) (by decide +kernel) (by decide +kernel)
theorem mlL_77 : MLv RL 77 kX5_back 1 := ⟨⟨w_367, w_1, w_370, by decide, by decide, by decide +kernel⟩, w_368, w_369⟩
theorem w_371 : Cond.methodLink RL 81 yX5_meet ∈ Tw := tw_of (i := 371) (by decide +kernel) (by decide +kernel)
theorem w_374 : Cond.code yX5_meet cX5_meet 4 (some .int) ∈ Tw := tw_of (i := 374) (by decide +kernel) (by decide +kernel)
theorem w_373 : Cond.selects RX5 yX5_meet yX5_meet ∈ Tw := tw_of (i := 373) (by decide +kernel) (by decide +kernel)
theorem w_372 : Cond.instanceMethod yX5_meet ∈ Tw := tw_of (i := 372) (by decide +kernel) (by decide +kernel)
theorem mlL_81 : MLv RL 81 kX5_meet 2 := ⟨⟨w_371, w_1, w_374, by decide, by decide, by decide +kernel⟩, w_372, w_373⟩
theorem w_375 : Cond.methodLink RL 85 yX5_spares ∈ Tw := tw_of (i := 375) (by decide +kernel) (by decide +kernel)
theorem w_378 : Cond.code yX5_spares cX5_spares 5 (some .int) ∈ Tw := tw_of (i := 378) (by decide +kernel) (by decide +kernel)
theorem w_377 : Cond.selects RX5 yX5_spares yX5_spares ∈ Tw := tw_of (i := 377) (by decide +kernel) (by decide +kernel)
theorem w_376 : Cond.instanceMethod yX5_spares ∈ Tw := tw_of (i := 376) (by decide +kernel) (by decide +kernel)
theorem mlL_85 : MLv RL 85 kX5_spares 1 := ⟨⟨w_375, w_1, w_378, by decide, by decide, by decide +kernel⟩, w_376, w_377⟩
theorem w_379 : Cond.methodLink RL 89 yX5_closes ∈ Tw := tw_of (i := 379) (by decide +kernel) (by decide +kernel)
theorem w_382 : Cond.code yX5_closes cX5_closes 6 (some .int) ∈ Tw := tw_of (i := 382) (by decide +kernel) (by decide +kernel)
theorem w_381 : Cond.selects RX5 yX5_closes yX5_closes ∈ Tw := tw_of (i := 381) (by decide +kernel) (by decide +kernel)
theorem w_380 : Cond.instanceMethod yX5_closes ∈ Tw := tw_of (i := 380) (by decide +kernel) (by decide +kernel)
theorem mlL_89 : MLv RL 89 kX5_closes 2 := ⟨⟨w_379, w_1, w_382, by decide, by decide, by decide +kernel⟩, w_380, w_381⟩
theorem w_383 : Cond.methodLink RX5 178 yX0_goOn ∈ Tw := tw_of (i := 383) (by decide +kernel) (by decide +kernel)
theorem mlX5_178 : MLv RX5 178 kX0_goOn 1 := ⟨⟨w_383, w_2, w_326, by decide, by decide, by decide +kernel⟩, w_324, w_325⟩
theorem w_384 : Cond.methodLink RL 93 yX5_bumps ∈ Tw := tw_of (i := 384) (by decide +kernel) (by decide +kernel)
theorem w_387 : Cond.code yX5_bumps cX5_bumps 5 (some .int) ∈ Tw := tw_of (i := 387) (by decide +kernel) (by decide +kernel)
theorem w_386 : Cond.selects RX5 yX5_bumps yX5_bumps ∈ Tw := tw_of (i := 386) (by decide +kernel) (by decide +kernel)
theorem w_385 : Cond.instanceMethod yX5_bumps ∈ Tw := tw_of (i := 385) (by decide +kernel) (by decide +kernel)
theorem mlL_93 : MLv RL 93 kX5_bumps 2 := ⟨⟨w_384, w_1, w_387, by decide, by decide, by decide +kernel⟩, w_385, w_386⟩
theorem w_388 : Cond.methodLink RL 97 yX5_square ∈ Tw := tw_of (i := 388) (by decide +kernel) (by decide +kernel)
theorem w_391 : Cond.code yX5_square cX5_square 7 (some .int) ∈ Tw := tw_of (i := 391) (by decide +kernel) (by decide +kernel)
theorem w_390 : Cond.selects RX5 yX5_square yX5_square ∈ Tw := tw_of (i := 390) (by decide +kernel) (by decide +kernel)
theorem w_389 : Cond.instanceMethod yX5_square ∈ Tw := tw_of (i := 389) (by decide +kernel) (by decide +kernel)
theorem mlL_97 : MLv RL 97 kX5_square 3 := ⟨⟨w_388, w_1, w_391, by decide, by decide, by decide +kernel⟩, w_389, w_390⟩
theorem w_392 : Cond.methodLink RX5 181 yX0_goOnOften ∈ Tw := tw_of (i := 392) (by decide +kernel) (by decide +kernel)
theorem w_395 : Cond.code yX0_goOnOften cX0_goOnOften 5 (some .int) ∈ Tw := tw_of (i := 395) (by decide +kernel) (by decide +kernel)
theorem w_394 : Cond.selects RX0 yX0_goOnOften yX0_goOnOften ∈ Tw := tw_of (i := 394) (by decide +kernel) (by decide +kernel)
theorem w_393 : Cond.instanceMethod yX0_goOnOften ∈ Tw := tw_of (i := 393) (by decide +kernel) (by decide +kernel)
theorem mlX5_181 : MLv RX5 181 kX0_goOnOften 2 := ⟨⟨w_392, w_2, w_395, by decide, by decide, by decide +kernel⟩, w_393, w_394⟩
theorem w_396 : Cond.methodLink RX0 77 yX0_goOn ∈ Tw := tw_of (i := 396) (by decide +kernel) (by decide +kernel)
theorem mlX0_77 : MLv RX0 77 kX0_goOn 1 := ⟨⟨w_396, w_2, w_326, by decide, by decide, by decide +kernel⟩, w_324, w_325⟩
theorem w_397 : Cond.methodLink RX5 184 yX5_turned ∈ Tw := tw_of (i := 397) (by decide +kernel) (by decide +kernel)
theorem w_329 : Cond.code yX5_turned cX5_turned 2 (some .int) ∈ Tw := tw_of (i := 329) (by decide +kernel) (by decide +kernel)
theorem w_328 : Cond.static yX5_turned ∈ Tw := tw_of (i := 328) (by decide +kernel) (by decide +kernel)
theorem mlX5_184 : MLs RX5 184 kX5_turned 2 := ⟨⟨w_397, w_1, w_329, by decide, by decide, by decide +kernel⟩, w_328⟩
theorem w_398 : Cond.methodLink RL 101 yX5_dine ∈ Tw := tw_of (i := 398) (by decide +kernel) (by decide +kernel)
theorem w_401 : Cond.code yX5_dine cX5_dine 8 (some .int) ∈ Tw := tw_of (i := 401) (by decide +kernel) (by decide +kernel)
theorem w_400 : Cond.selects RX5 yX5_dine yX5_dine ∈ Tw := tw_of (i := 400) (by decide +kernel) (by decide +kernel)
theorem w_399 : Cond.instanceMethod yX5_dine ∈ Tw := tw_of (i := 399) (by decide +kernel) (by decide +kernel)
theorem mlL_101 : MLv RL 101 kX5_dine 4 := ⟨⟨w_398, w_1, w_401, by decide, by decide, by decide +kernel⟩, w_399, w_400⟩
theorem w_402 : Cond.methodLink RL 105 yX5_sees ∈ Tw := tw_of (i := 402) (by decide +kernel) (by decide +kernel)
theorem w_405 : Cond.code yX5_sees cX5_sees 3 (some .int) ∈ Tw := tw_of (i := 405) (by decide +kernel) (by decide +kernel)
theorem w_404 : Cond.selects RX5 yX5_sees yX5_sees ∈ Tw := tw_of (i := 404) (by decide +kernel) (by decide +kernel)
theorem w_403 : Cond.instanceMethod yX5_sees ∈ Tw := tw_of (i := 403) (by decide +kernel) (by decide +kernel)
theorem mlL_105 : MLv RL 105 kX5_sees 2 := ⟨⟨w_402, w_1, w_405, by decide, by decide, by decide +kernel⟩, w_403, w_404⟩
theorem w_406 : Cond.methodLink RX5 187 yX0_seenFrom ∈ Tw := tw_of (i := 406) (by decide +kernel) (by decide +kernel)
theorem w_409 : Cond.code yX0_seenFrom cX0_seenFrom 5 (some .int) ∈ Tw := tw_of (i := 409) (by decide +kernel) (by decide +kernel)
theorem w_408 : Cond.selects RX0 yX0_seenFrom yX0_seenFrom ∈ Tw := tw_of (i := 408) (by decide +kernel) (by decide +kernel)
theorem w_407 : Cond.instanceMethod yX0_seenFrom ∈ Tw := tw_of (i := 407) (by decide +kernel) (by decide +kernel)
theorem mlX5_187 : MLv RX5 187 kX0_seenFrom 1 := ⟨⟨w_406, w_2, w_409, by decide, by decide, by decide +kernel⟩, w_407, w_408⟩
theorem w_410 : Cond.methodLink RL 109 yX5_twice ∈ Tw := tw_of (i := 410) (by decide +kernel) (by decide +kernel)
theorem w_413 : Cond.code yX5_twice cX5_twice 6 (some .int) ∈ Tw := tw_of (i := 413) (by decide +kernel) (by decide +kernel)
theorem w_412 : Cond.selects RX5 yX5_twice yX5_twice ∈ Tw := tw_of (i := 412) (by decide +kernel) (by decide +kernel)
theorem w_411 : Cond.instanceMethod yX5_twice ∈ Tw := tw_of (i := 411) (by decide +kernel) (by decide +kernel)
theorem mlL_109 : MLv RL 109 kX5_twice 1 := ⟨⟨w_410, w_1, w_413, by decide, by decide, by decide +kernel⟩, w_411, w_412⟩
theorem w_414 : Cond.methodLink RX5 190 yJ6_bitCount_0f7a4 ∈ Tw := tw_of (i := 414) (by decide +kernel) (by decide +kernel)
theorem w_7 : Cond.initialized RJ6 ∈ Tw := tw_of (i := 7) (by decide +kernel) (by decide +kernel)
theorem w_416 : Cond.code yJ6_bitCount_0f7a4 cJ6_bitCount_0f7a4 1 (some .int) ∈ Tw := tw_of (i := 416) (by decide +kernel) (by decide +kernel)
theorem w_415 : Cond.static yJ6_bitCount_0f7a4 ∈ Tw := tw_of (i := 415) (by decide +kernel) (by decide +kernel)
theorem mlX5_190 : MLs RX5 190 kJ6_bitCount_0f7a4 1 := ⟨⟨w_414, w_7, w_416, by decide, by decide, by decide +kernel⟩, w_415⟩
theorem w_420 : Cond.methodLink RL 113 yX5_about ∈ Tw := tw_of (i := 420) (by decide +kernel) (by decide +kernel)
theorem w_423 : Cond.code yX5_about cX5_about 5 (some .int) ∈ Tw := tw_of (i := 423) (by decide +kernel) (by decide +kernel)
theorem w_422 : Cond.selects RX5 yX5_about yX5_about ∈ Tw := tw_of (i := 422) (by decide +kernel) (by decide +kernel)
theorem w_421 : Cond.instanceMethod yX5_about ∈ Tw := tw_of (i := 421) (by decide +kernel) (by decide +kernel)
theorem mlL_113 : MLv RL 113 kX5_about 2 := ⟨⟨w_420, w_1, w_423, by decide, by decide, by decide +kernel⟩, w_421, w_422⟩
theorem w_424 : Cond.methodLink RX5 195 yX0_roundCorner ∈ Tw := tw_of (i := 424) (by decide +kernel) (by decide +kernel)
theorem w_427 : Cond.code yX0_roundCorner cX0_roundCorner 7 (some .long) ∈ Tw := tw_of (i := 427) (by decide +kernel) (by decide +kernel)
theorem w_426 : Cond.selects RX0 yX0_roundCorner yX0_roundCorner ∈ Tw := tw_of (i := 426) (by decide +kernel) (by decide +kernel)
theorem w_425 : Cond.instanceMethod yX0_roundCorner ∈ Tw := tw_of (i := 425) (by decide +kernel) (by decide +kernel)
theorem mlX5_195 : MLv RX5 195 kX0_roundCorner 1 := ⟨⟨w_424, w_2, w_427, by decide, by decide, by decide +kernel⟩, w_425, w_426⟩
theorem w_428 : Cond.methodLink RX5 199 yJ13_bitCount_95d88 ∈ Tw := tw_of (i := 428) (by decide +kernel) (by decide +kernel)
theorem w_8 : Cond.initialized RJ13 ∈ Tw := tw_of (i := 8) (by decide +kernel) (by decide +kernel)
theorem w_430 : Cond.code yJ13_bitCount_95d88 cJ13_bitCount_95d88 2 (some .int) ∈ Tw := tw_of (i := 430) (by decide +kernel) (by decide +kernel)
theorem w_429 : Cond.static yJ13_bitCount_95d88 ∈ Tw := tw_of (i := 429) (by decide +kernel) (by decide +kernel)
theorem mlX5_199 : MLs RX5 199 kJ13_bitCount_95d88 1 := ⟨⟨w_428, w_8, w_430, by decide, by decide, by decide +kernel⟩, w_429⟩
theorem w_434 : Cond.methodLink RL 117 yX5_corners ∈ Tw := tw_of (i := 434) (by decide +kernel) (by decide +kernel)
theorem w_437 : Cond.code yX5_corners cX5_corners 1 (some .int) ∈ Tw := tw_of (i := 437) (by decide +kernel) (by decide +kernel)
theorem w_436 : Cond.selects RX5 yX5_corners yX5_corners ∈ Tw := tw_of (i := 436) (by decide +kernel) (by decide +kernel)
theorem w_435 : Cond.instanceMethod yX5_corners ∈ Tw := tw_of (i := 435) (by decide +kernel) (by decide +kernel)
theorem mlL_117 : MLv RL 117 kX5_corners 0 := ⟨⟨w_434, w_1, w_437, by decide, by decide, by decide +kernel⟩, w_435, w_436⟩
theorem w_438 : Cond.methodLink RX5 204 yX0_sumOfCorners ∈ Tw := tw_of (i := 438) (by decide +kernel) (by decide +kernel)
theorem w_441 : Cond.code yX0_sumOfCorners cX0_sumOfCorners 9 (some .int) ∈ Tw := tw_of (i := 441) (by decide +kernel) (by decide +kernel)
theorem w_440 : Cond.selects RX0 yX0_sumOfCorners yX0_sumOfCorners ∈ Tw := tw_of (i := 440) (by decide +kernel) (by decide +kernel)
theorem w_439 : Cond.instanceMethod yX0_sumOfCorners ∈ Tw := tw_of (i := 439) (by decide +kernel) (by decide +kernel)
theorem mlX5_204 : MLv RX5 204 kX0_sumOfCorners 2 := ⟨⟨w_438, w_2, w_441, by decide, by decide, by decide +kernel⟩, w_439, w_440⟩
theorem w_442 : Cond.methodLink RX0 80 yX0_roundCorner ∈ Tw := tw_of (i := 442) (by decide +kernel) (by decide +kernel)
theorem mlX0_80 : MLv RX0 80 kX0_roundCorner 1 := ⟨⟨w_442, w_2, w_427, by decide, by decide, by decide +kernel⟩, w_425, w_426⟩
theorem w_443 : Cond.methodLink RX0 84 yJ13_bitCount_95d88 ∈ Tw := tw_of (i := 443) (by decide +kernel) (by decide +kernel)
theorem mlX0_84 : MLs RX0 84 kJ13_bitCount_95d88 1 := ⟨⟨w_443, w_8, w_430, by decide, by decide, by decide +kernel⟩, w_429⟩
theorem w_444 : Cond.methodLink RL 122 yX5_excess ∈ Tw := tw_of (i := 444) (by decide +kernel) (by decide +kernel)
theorem w_447 : Cond.code yX5_excess cX5_excess 1 (some .int) ∈ Tw := tw_of (i := 447) (by decide +kernel) (by decide +kernel)
theorem w_446 : Cond.selects RX5 yX5_excess yX5_excess ∈ Tw := tw_of (i := 446) (by decide +kernel) (by decide +kernel)
theorem w_445 : Cond.instanceMethod yX5_excess ∈ Tw := tw_of (i := 445) (by decide +kernel) (by decide +kernel)
theorem mlL_122 : MLv RL 122 kX5_excess 0 := ⟨⟨w_444, w_1, w_447, by decide, by decide, by decide +kernel⟩, w_445, w_446⟩
theorem w_448 : Cond.methodLink RL 126 yX5_bent ∈ Tw := tw_of (i := 448) (by decide +kernel) (by decide +kernel)
theorem w_451 : Cond.code yX5_bent cX5_bent 5 (some .int) ∈ Tw := tw_of (i := 451) (by decide +kernel) (by decide +kernel)
theorem w_450 : Cond.selects RX5 yX5_bent yX5_bent ∈ Tw := tw_of (i := 450) (by decide +kernel) (by decide +kernel)
theorem w_449 : Cond.instanceMethod yX5_bent ∈ Tw := tw_of (i := 449) (by decide +kernel) (by decide +kernel)
theorem mlL_126 : MLv RL 126 kX5_bent 0 := ⟨⟨w_448, w_1, w_451, by decide, by decide, by decide +kernel⟩, w_449, w_450⟩
theorem w_452 : Cond.methodLink RX5 207 yX0_ways ∈ Tw := tw_of (i := 452) (by decide +kernel) (by decide +kernel)
theorem mlX5_207 : MLv RX5 207 kX0_ways 0 := ⟨⟨w_452, w_2, w_216, by decide, by decide, by decide +kernel⟩, w_214, w_215⟩
theorem w_453 : Cond.methodLink RL 130 yX5_parts ∈ Tw := tw_of (i := 453) (by decide +kernel) (by decide +kernel)
theorem w_456 : Cond.code yX5_parts cX5_parts 4 (some .int) ∈ Tw := tw_of (i := 456) (by decide +kernel) (by decide +kernel)
theorem w_455 : Cond.selects RX5 yX5_parts yX5_parts ∈ Tw := tw_of (i := 455) (by decide +kernel) (by decide +kernel)
theorem w_454 : Cond.instanceMethod yX5_parts ∈ Tw := tw_of (i := 454) (by decide +kernel) (by decide +kernel)
theorem mlL_130 : MLv RL 130 kX5_parts 0 := ⟨⟨w_453, w_1, w_456, by decide, by decide, by decide +kernel⟩, w_454, w_455⟩
theorem w_457 : Cond.methodLink RX5 210 yX0_spread ∈ Tw := tw_of (i := 457) (by decide +kernel) (by decide +kernel)
theorem w_460 : Cond.code yX0_spread cX0_spread 9 none ∈ Tw := tw_of (i := 460) (by decide +kernel) (by decide +kernel)
theorem w_459 : Cond.selects RX0 yX0_spread yX0_spread ∈ Tw := tw_of (i := 459) (by decide +kernel) (by decide +kernel)
theorem w_458 : Cond.instanceMethod yX0_spread ∈ Tw := tw_of (i := 458) (by decide +kernel) (by decide +kernel)
theorem mlX5_210 : MLv RX5 210 kX0_spread 3 := ⟨⟨w_457, w_2, w_460, by decide, by decide, by decide +kernel⟩, w_458, w_459⟩
theorem w_462 : Cond.methodLink RX0 91 yJ7_fill_53178 ∈ Tw := tw_of (i := 462) (by decide +kernel) (by decide +kernel)
theorem w_9 : Cond.initialized RJ7 ∈ Tw := tw_of (i := 9) (by decide +kernel) (by decide +kernel)
theorem w_464 : Cond.code yJ7_fill_53178 cJ7_fill_53178 4 none ∈ Tw := tw_of (i := 464) (by decide +kernel) (by decide +kernel)
theorem w_463 : Cond.static yJ7_fill_53178 ∈ Tw := tw_of (i := 463) (by decide +kernel) (by decide +kernel)
theorem mlX0_91 : MLs RX0 91 kJ7_fill_53178 2 := ⟨⟨w_462, w_9, w_464, by decide, by decide, by decide +kernel⟩, w_463⟩
theorem w_465 : Cond.methodLink RX0 97 yX0_lower ∈ Tw := tw_of (i := 465) (by decide +kernel) (by decide +kernel)
theorem w_467 : Cond.code yX0_lower cX0_lower 3 (some .boolean) ∈ Tw := tw_of (i := 467) (by decide +kernel) (by decide +kernel)
theorem w_466 : Cond.static yX0_lower ∈ Tw := tw_of (i := 466) (by decide +kernel) (by decide +kernel)
theorem mlX0_97 : MLs RX0 97 kX0_lower 3 := ⟨⟨w_465, w_2, w_467, by decide, by decide, by decide +kernel⟩, w_466⟩
theorem w_468 : Cond.methodLink RX0 101 yX0_roughOf ∈ Tw := tw_of (i := 468) (by decide +kernel) (by decide +kernel)
theorem mlX0_101 : MLv RX0 101 kX0_roughOf 1 := ⟨⟨w_468, w_2, w_199, by decide, by decide, by decide +kernel⟩, w_197, w_198⟩
theorem w_470 : Cond.methodLink RX5 215 yX5_reached ∈ Tw := tw_of (i := 470) (by decide +kernel) (by decide +kernel)
theorem w_473 : Cond.code yX5_reached cX5_reached 4 (some .int) ∈ Tw := tw_of (i := 473) (by decide +kernel) (by decide +kernel)
theorem ws_mlX5_215 : Cond.selects RX5 yX5_reached yX5_reached ∈ Tw := tw_sel (q := (⟨"BentPlain", "reached", "(I)I"⟩, 12)) (i := 2) (by decide +kernel)
theorem w_472 : Cond.instanceMethod yX5_reached ∈ Tw := tw_of (i := 472) (by decide +kernel) (by decide +kernel)
theorem mlX5_215 : MLv RX5 215 kX5_reached 1 := ⟨⟨w_470, w_1, w_473, by decide, by decide, by decide +kernel⟩, w_472, ws_mlX5_215⟩
theorem w_474 : Cond.methodLink RL 134 yX5_far ∈ Tw := tw_of (i := 474) (by decide +kernel) (by decide +kernel)
theorem w_477 : Cond.code yX5_far cX5_far 3 (some .int) ∈ Tw := tw_of (i := 477) (by decide +kernel) (by decide +kernel)
theorem w_476 : Cond.selects RX5 yX5_far yX5_far ∈ Tw := tw_of (i := 476) (by decide +kernel) (by decide +kernel)
theorem w_475 : Cond.instanceMethod yX5_far ∈ Tw := tw_of (i := 475) (by decide +kernel) (by decide +kernel)
theorem mlL_134 : MLv RL 134 kX5_far 2 := ⟨⟨w_474, w_1, w_477, by decide, by decide, by decide +kernel⟩, w_475, w_476⟩
theorem w_478 : Cond.methodLink RX5 218 yX5_least ∈ Tw := tw_of (i := 478) (by decide +kernel) (by decide +kernel)
theorem w_481 : Cond.code yX5_least cX5_least 5 (some .int) ∈ Tw := tw_of (i := 481) (by decide +kernel) (by decide +kernel)
theorem ws_mlX5_218 : Cond.selects RX5 yX5_least yX5_least ∈ Tw := tw_sel (q := (⟨"BentPlain", "least", "(IIZ)I"⟩, 12)) (i := 3) (by decide +kernel)
theorem w_480 : Cond.instanceMethod yX5_least ∈ Tw := tw_of (i := 480) (by decide +kernel) (by decide +kernel)
theorem mlX5_218 : MLv RX5 218 kX5_least 3 := ⟨⟨w_478, w_1, w_481, by decide, by decide, by decide +kernel⟩, w_480, ws_mlX5_218⟩
theorem w_483 : Cond.methodLink RL 138 yX5_smooth ∈ Tw := tw_of (i := 483) (by decide +kernel) (by decide +kernel)
theorem w_486 : Cond.code yX5_smooth cX5_smooth 3 (some .int) ∈ Tw := tw_of (i := 486) (by decide +kernel) (by decide +kernel)
theorem w_485 : Cond.selects RX5 yX5_smooth yX5_smooth ∈ Tw := tw_of (i := 485) (by decide +kernel) (by decide +kernel)
theorem w_484 : Cond.instanceMethod yX5_smooth ∈ Tw := tw_of (i := 484) (by decide +kernel) (by decide +kernel)
theorem mlL_138 : MLv RL 138 kX5_smooth 2 := ⟨⟨w_483, w_1, w_486, by decide, by decide, by decide +kernel⟩, w_484, w_485⟩
theorem w_487 : Cond.methodLink RL 142 yX5_turns ∈ Tw := tw_of (i := 487) (by decide +kernel) (by decide +kernel)
theorem w_490 : Cond.code yX5_turns cX5_turns 6 (some .int) ∈ Tw := tw_of (i := 490) (by decide +kernel) (by decide +kernel)
theorem w_489 : Cond.selects RX5 yX5_turns yX5_turns ∈ Tw := tw_of (i := 489) (by decide +kernel) (by decide +kernel)
theorem w_488 : Cond.instanceMethod yX5_turns ∈ Tw := tw_of (i := 488) (by decide +kernel) (by decide +kernel)
theorem mlL_142 : MLv RL 142 kX5_turns 3 := ⟨⟨w_487, w_1, w_490, by decide, by decide, by decide +kernel⟩, w_488, w_489⟩
theorem w_491 : Cond.methodLink RX5 222 yX0_spreadTurning ∈ Tw := tw_of (i := 491) (by decide +kernel) (by decide +kernel)
theorem w_494 : Cond.code yX0_spreadTurning cX0_spreadTurning 6 none ∈ Tw := tw_of (i := 494) (by decide +kernel) (by decide +kernel)
theorem w_493 : Cond.selects RX0 yX0_spreadTurning yX0_spreadTurning ∈ Tw := tw_of (i := 493) (by decide +kernel) (by decide +kernel)
theorem w_492 : Cond.instanceMethod yX0_spreadTurning ∈ Tw := tw_of (i := 492) (by decide +kernel) (by decide +kernel)
theorem mlX5_222 : MLv RX5 222 kX0_spreadTurning 2 := ⟨⟨w_491, w_2, w_494, by decide, by decide, by decide +kernel⟩, w_492, w_493⟩
theorem w_495 : Cond.methodLink RX5 227 yJ9_min_7cf53 ∈ Tw := tw_of (i := 495) (by decide +kernel) (by decide +kernel)
theorem w_10 : Cond.initialized RJ9 ∈ Tw := tw_of (i := 10) (by decide +kernel) (by decide +kernel)
theorem w_497 : Cond.code yJ9_min_7cf53 cJ9_min_7cf53 2 (some .int) ∈ Tw := tw_of (i := 497) (by decide +kernel) (by decide +kernel)
theorem w_496 : Cond.static yJ9_min_7cf53 ∈ Tw := tw_of (i := 496) (by decide +kernel) (by decide +kernel)
theorem mlX5_227 : MLs RX5 227 kJ9_min_7cf53 2 := ⟨⟨w_495, w_10, w_497, by decide, by decide, by decide +kernel⟩, w_496⟩
theorem w_498 : Cond.methodLink RL 146 yX5_within ∈ Tw := tw_of (i := 498) (by decide +kernel) (by decide +kernel)
theorem w_501 : Cond.code yX5_within cX5_within 3 (some .int) ∈ Tw := tw_of (i := 501) (by decide +kernel) (by decide +kernel)
theorem w_500 : Cond.selects RX5 yX5_within yX5_within ∈ Tw := tw_of (i := 500) (by decide +kernel) (by decide +kernel)
theorem w_499 : Cond.instanceMethod yX5_within ∈ Tw := tw_of (i := 499) (by decide +kernel) (by decide +kernel)
theorem mlL_146 : MLv RL 146 kX5_within 2 := ⟨⟨w_498, w_1, w_501, by decide, by decide, by decide +kernel⟩, w_499, w_500⟩
theorem w_502 : Cond.methodLink RL 150 yX5_mends ∈ Tw := tw_of (i := 502) (by decide +kernel) (by decide +kernel)
theorem w_505 : Cond.code yX5_mends cX5_mends 8 (some .int) ∈ Tw := tw_of (i := 505) (by decide +kernel) (by decide +kernel)
theorem w_504 : Cond.selects RX5 yX5_mends yX5_mends ∈ Tw := tw_of (i := 504) (by decide +kernel) (by decide +kernel)
theorem w_503 : Cond.instanceMethod yX5_mends ∈ Tw := tw_of (i := 503) (by decide +kernel) (by decide +kernel)
theorem mlL_150 : MLv RL 150 kX5_mends 2 := ⟨⟨w_502, w_1, w_505, by decide, by decide, by decide +kernel⟩, w_503, w_504⟩
theorem w_506 : Cond.methodLink RX5 232 yX5_farThrough ∈ Tw := tw_of (i := 506) (by decide +kernel) (by decide +kernel)
theorem w_509 : Cond.code yX5_farThrough cX5_farThrough 5 (some .int) ∈ Tw := tw_of (i := 509) (by decide +kernel) (by decide +kernel)
theorem ws_mlX5_232 : Cond.selects RX5 yX5_farThrough yX5_farThrough ∈ Tw := tw_sel (q := (⟨"BentPlain", "farThrough", "(II)I"⟩, 12)) (i := 4) (by decide +kernel)
theorem w_508 : Cond.instanceMethod yX5_farThrough ∈ Tw := tw_of (i := 508) (by decide +kernel) (by decide +kernel)
theorem mlX5_232 : MLv RX5 232 kX5_farThrough 2 := ⟨⟨w_506, w_1, w_509, by decide, by decide, by decide +kernel⟩, w_508, ws_mlX5_232⟩
theorem w_510 : Cond.methodLink RL 154 yX5_feed ∈ Tw := tw_of (i := 510) (by decide +kernel) (by decide +kernel)
theorem w_513 : Cond.code yX5_feed cX5_feed 4 (some .int) ∈ Tw := tw_of (i := 513) (by decide +kernel) (by decide +kernel)
theorem w_512 : Cond.selects RX5 yX5_feed yX5_feed ∈ Tw := tw_of (i := 512) (by decide +kernel) (by decide +kernel)
theorem w_511 : Cond.instanceMethod yX5_feed ∈ Tw := tw_of (i := 511) (by decide +kernel) (by decide +kernel)
theorem mlL_154 : MLv RL 154 kX5_feed 2 := ⟨⟨w_510, w_1, w_513, by decide, by decide, by decide +kernel⟩, w_511, w_512⟩
theorem w_514 : Cond.methodLink RX5 238 yX2_add ∈ Tw := tw_of (i := 514) (by decide +kernel) (by decide +kernel)
theorem w_4 : Cond.initialized RX2 ∈ Tw := tw_of (i := 4) (by decide +kernel) (by decide +kernel)
theorem w_517 : Cond.code yX2_add cX2_add 2 none ∈ Tw := tw_of (i := 517) (by decide +kernel) (by decide +kernel)
theorem w_516 : Cond.selects RX2 yX2_add yX2_add ∈ Tw := tw_of (i := 516) (by decide +kernel) (by decide +kernel)
theorem w_515 : Cond.instanceMethod yX2_add ∈ Tw := tw_of (i := 515) (by decide +kernel) (by decide +kernel)
theorem mlX5_238 : MLv RX5 238 kX2_add 1 := ⟨⟨w_514, w_4, w_517, by decide, by decide, by decide +kernel⟩, w_515, w_516⟩
theorem w_518 : Cond.methodLink RL 158 yX5_wipe ∈ Tw := tw_of (i := 518) (by decide +kernel) (by decide +kernel)
theorem w_521 : Cond.code yX5_wipe cX5_wipe 2 (some .int) ∈ Tw := tw_of (i := 521) (by decide +kernel) (by decide +kernel)
theorem w_520 : Cond.selects RX5 yX5_wipe yX5_wipe ∈ Tw := tw_of (i := 520) (by decide +kernel) (by decide +kernel)
theorem w_519 : Cond.instanceMethod yX5_wipe ∈ Tw := tw_of (i := 519) (by decide +kernel) (by decide +kernel)
theorem mlL_158 : MLv RL 158 kX5_wipe 0 := ⟨⟨w_518, w_1, w_521, by decide, by decide, by decide +kernel⟩, w_519, w_520⟩
theorem w_522 : Cond.methodLink RL 162 yX5_plain ∈ Tw := tw_of (i := 522) (by decide +kernel) (by decide +kernel)
theorem w_525 : Cond.code yX5_plain cX5_plain 2 (some .int) ∈ Tw := tw_of (i := 525) (by decide +kernel) (by decide +kernel)
theorem w_524 : Cond.selects RX5 yX5_plain yX5_plain ∈ Tw := tw_of (i := 524) (by decide +kernel) (by decide +kernel)
theorem w_523 : Cond.instanceMethod yX5_plain ∈ Tw := tw_of (i := 523) (by decide +kernel) (by decide +kernel)
theorem mlL_162 : MLv RL 162 kX5_plain 0 := ⟨⟨w_522, w_1, w_525, by decide, by decide, by decide +kernel⟩, w_523, w_524⟩
theorem w_526 : Cond.methodLink RX5 241 yX0_become ∈ Tw := tw_of (i := 526) (by decide +kernel) (by decide +kernel)
theorem w_529 : Cond.code yX0_become cX0_become 3 none ∈ Tw := tw_of (i := 529) (by decide +kernel) (by decide +kernel)
theorem w_528 : Cond.selects RX0 yX0_become yX0_become ∈ Tw := tw_of (i := 528) (by decide +kernel) (by decide +kernel)
theorem w_527 : Cond.instanceMethod yX0_become ∈ Tw := tw_of (i := 527) (by decide +kernel) (by decide +kernel)
theorem mlX5_241 : MLv RX5 241 kX0_become 1 := ⟨⟨w_526, w_2, w_529, by decide, by decide, by decide +kernel⟩, w_527, w_528⟩
theorem w_533 : Cond.methodLink RX0 38 yX4_become ∈ Tw := tw_of (i := 533) (by decide +kernel) (by decide +kernel)
theorem mlX0_38 : MLv RX0 38 kX4_become 1 := ⟨⟨w_533, w_3, w_362, by decide, by decide, by decide +kernel⟩, w_360, w_361⟩
theorem w_534 : Cond.methodLink RX5 243 yX3_tellAll ∈ Tw := tw_of (i := 534) (by decide +kernel) (by decide +kernel)
theorem w_12 : Cond.initialized RX3 ∈ Tw := tw_of (i := 12) (by decide +kernel) (by decide +kernel)
theorem w_536 : Cond.code yX3_tellAll cX3_tellAll 3 (some .int) ∈ Tw := tw_of (i := 536) (by decide +kernel) (by decide +kernel)
theorem w_535 : Cond.static yX3_tellAll ∈ Tw := tw_of (i := 535) (by decide +kernel) (by decide +kernel)
theorem mlX5_243 : MLs RX5 243 kX3_tellAll 2 := ⟨⟨w_534, w_12, w_536, by decide, by decide, by decide +kernel⟩, w_535⟩
theorem w_537 : Cond.methodLink RX3 9 yX2_begin ∈ Tw := tw_of (i := 537) (by decide +kernel) (by decide +kernel)
theorem w_540 : Cond.code yX2_begin cX2_begin 1 none ∈ Tw := tw_of (i := 540) (by decide +kernel) (by decide +kernel)
theorem w_539 : Cond.selects RX2 yX2_begin yX2_begin ∈ Tw := tw_of (i := 539) (by decide +kernel) (by decide +kernel)
theorem w_538 : Cond.instanceMethod yX2_begin ∈ Tw := tw_of (i := 538) (by decide +kernel) (by decide +kernel)
theorem mlX3_9 : MLv RX3 9 kX2_begin 0 := ⟨⟨w_537, w_4, w_540, by decide, by decide, by decide +kernel⟩, w_538, w_539⟩
theorem w_541 : Cond.methodLink RX2 22 yX2_advance ∈ Tw := tw_of (i := 541) (by decide +kernel) (by decide +kernel)
theorem w_544 : Cond.code yX2_advance cX2_advance 1 none ∈ Tw := tw_of (i := 544) (by decide +kernel) (by decide +kernel)
theorem w_543 : Cond.selects RX2 yX2_advance yX2_advance ∈ Tw := tw_of (i := 543) (by decide +kernel) (by decide +kernel)
theorem w_542 : Cond.instanceMethod yX2_advance ∈ Tw := tw_of (i := 542) (by decide +kernel) (by decide +kernel)
theorem mlX2_22 : MLv RX2 22 kX2_advance 0 := ⟨⟨w_541, w_4, w_544, by decide, by decide, by decide +kernel⟩, w_542, w_543⟩
theorem w_545 : Cond.methodLink RX2 31 yX2_isLetter ∈ Tw := tw_of (i := 545) (by decide +kernel) (by decide +kernel)
theorem w_547 : Cond.code yX2_isLetter cX2_isLetter 1 (some .boolean) ∈ Tw := tw_of (i := 547) (by decide +kernel) (by decide +kernel)
theorem w_546 : Cond.static yX2_isLetter ∈ Tw := tw_of (i := 546) (by decide +kernel) (by decide +kernel)
theorem mlX2_31 : MLs RX2 31 kX2_isLetter 1 := ⟨⟨w_545, w_4, w_547, by decide, by decide, by decide +kernel⟩, w_546⟩
theorem w_548 : Cond.methodLink RX2 38 yX2_isDigit ∈ Tw := tw_of (i := 548) (by decide +kernel) (by decide +kernel)
theorem w_550 : Cond.code yX2_isDigit cX2_isDigit 1 (some .boolean) ∈ Tw := tw_of (i := 550) (by decide +kernel) (by decide +kernel)
theorem w_549 : Cond.static yX2_isDigit ∈ Tw := tw_of (i := 549) (by decide +kernel) (by decide +kernel)
theorem mlX2_38 : MLs RX2 38 kX2_isDigit 1 := ⟨⟨w_548, w_4, w_550, by decide, by decide, by decide +kernel⟩, w_549⟩
theorem w_551 : Cond.methodLink RX2 41 yJ9_min_7cf53 ∈ Tw := tw_of (i := 551) (by decide +kernel) (by decide +kernel)
theorem mlX2_41 : MLs RX2 41 kJ9_min_7cf53 2 := ⟨⟨w_551, w_10, w_497, by decide, by decide, by decide +kernel⟩, w_496⟩
theorem w_552 : Cond.methodLink RX3 14 yX3_tellItem ∈ Tw := tw_of (i := 552) (by decide +kernel) (by decide +kernel)
theorem w_554 : Cond.code yX3_tellItem cX3_tellItem 2 (some .boolean) ∈ Tw := tw_of (i := 554) (by decide +kernel) (by decide +kernel)
theorem w_553 : Cond.static yX3_tellItem ∈ Tw := tw_of (i := 553) (by decide +kernel) (by decide +kernel)
theorem mlX3_14 : MLs RX3 14 kX3_tellItem 2 := ⟨⟨w_552, w_12, w_554, by decide, by decide, by decide +kernel⟩, w_553⟩
theorem w_556 : Cond.methodLink RX3 32 yX2_isWord ∈ Tw := tw_of (i := 556) (by decide +kernel) (by decide +kernel)
theorem w_559 : Cond.code yX2_isWord cX2_isWord 3 (some .boolean) ∈ Tw := tw_of (i := 559) (by decide +kernel) (by decide +kernel)
theorem w_558 : Cond.selects RX2 yX2_isWord yX2_isWord ∈ Tw := tw_of (i := 558) (by decide +kernel) (by decide +kernel)
theorem w_557 : Cond.instanceMethod yX2_isWord ∈ Tw := tw_of (i := 557) (by decide +kernel) (by decide +kernel)
theorem mlX3_32 : MLv RX3 32 kX2_isWord 1 := ⟨⟨w_556, w_4, w_559, by decide, by decide, by decide +kernel⟩, w_557, w_558⟩
theorem w_560 : Cond.methodLink RX2 47 yJ0_length_8abf5 ∈ Tw := tw_of (i := 560) (by decide +kernel) (by decide +kernel)
theorem w_13 : Cond.initialized RJ0 ∈ Tw := tw_of (i := 13) (by decide +kernel) (by decide +kernel)
theorem w_563 : Cond.code yJ0_length_8abf5 cJ0_length_8abf5 1 (some .int) ∈ Tw := tw_of (i := 563) (by decide +kernel) (by decide +kernel)
theorem w_562 : Cond.selects RJ0 yJ0_length_8abf5 yJ0_length_8abf5 ∈ Tw := tw_of (i := 562) (by decide +kernel) (by decide +kernel)
theorem w_561 : Cond.instanceMethod yJ0_length_8abf5 ∈ Tw := tw_of (i := 561) (by decide +kernel) (by decide +kernel)
theorem mlX2_47 : MLv RX2 47 kJ0_length_8abf5 0 := ⟨⟨w_560, w_13, w_563, by decide, by decide, by decide +kernel⟩, w_561, w_562⟩
theorem w_564 : Cond.methodLink RJ0 335 yJ0_coder_7d493 ∈ Tw := tw_of (i := 564) (by decide +kernel) (by decide +kernel)
theorem w_567 : Cond.code yJ0_coder_7d493 cJ0_coder_7d493 1 (some .byte) ∈ Tw := tw_of (i := 567) (by decide +kernel) (by decide +kernel)
theorem w_566 : Cond.selects RJ0 yJ0_coder_7d493 yJ0_coder_7d493 ∈ Tw := tw_of (i := 566) (by decide +kernel) (by decide +kernel)
theorem w_565 : Cond.instanceMethod yJ0_coder_7d493 ∈ Tw := tw_of (i := 565) (by decide +kernel) (by decide +kernel)
theorem mlJ0_335 : MLv RJ0 335 kJ0_coder_7d493 0 := ⟨⟨w_564, w_13, w_567, by decide, by decide, by decide +kernel⟩, w_565, w_566⟩
theorem w_570 : Cond.methodLink RX2 52 yJ0_charAt_5068e ∈ Tw := tw_of (i := 570) (by decide +kernel) (by decide +kernel)
theorem w_573 : Cond.code yJ0_charAt_5068e cJ0_charAt_5068e 2 (some .char) ∈ Tw := tw_of (i := 573) (by decide +kernel) (by decide +kernel)
theorem w_572 : Cond.selects RJ0 yJ0_charAt_5068e yJ0_charAt_5068e ∈ Tw := tw_of (i := 572) (by decide +kernel) (by decide +kernel)
theorem w_571 : Cond.instanceMethod yJ0_charAt_5068e ∈ Tw := tw_of (i := 571) (by decide +kernel) (by decide +kernel)
theorem mlX2_52 : MLv RX2 52 kJ0_charAt_5068e 1 := ⟨⟨w_570, w_13, w_573, by decide, by decide, by decide +kernel⟩, w_571, w_572⟩
theorem w_574 : Cond.methodLink RJ0 492 yJ0_isLatin1_aae02 ∈ Tw := tw_of (i := 574) (by decide +kernel) (by decide +kernel)
theorem w_577 : Cond.code yJ0_isLatin1_aae02 cJ0_isLatin1_aae02 1 (some .boolean) ∈ Tw := tw_of (i := 577) (by decide +kernel) (by decide +kernel)
theorem w_576 : Cond.selects RJ0 yJ0_isLatin1_aae02 yJ0_isLatin1_aae02 ∈ Tw := tw_of (i := 576) (by decide +kernel) (by decide +kernel)
theorem w_575 : Cond.instanceMethod yJ0_isLatin1_aae02 ∈ Tw := tw_of (i := 575) (by decide +kernel) (by decide +kernel)
theorem mlJ0_492 : MLv RJ0 492 kJ0_isLatin1_aae02 0 := ⟨⟨w_574, w_13, w_577, by decide, by decide, by decide +kernel⟩, w_575, w_576⟩
theorem w_578 : Cond.methodLink RJ0 495 yJ1_charAt_3b067 ∈ Tw := tw_of (i := 578) (by decide +kernel) (by decide +kernel)
theorem w_14 : Cond.initialized RJ1 ∈ Tw := tw_of (i := 14) (by decide +kernel) (by decide +kernel)
theorem w_580 : Cond.code yJ1_charAt_3b067 cJ1_charAt_3b067 2 (some .char) ∈ Tw := tw_of (i := 580) (by decide +kernel) (by decide +kernel)
theorem w_579 : Cond.static yJ1_charAt_3b067 ∈ Tw := tw_of (i := 579) (by decide +kernel) (by decide +kernel)
theorem mlJ0_495 : MLs RJ0 495 kJ1_charAt_3b067 2 := ⟨⟨w_578, w_14, w_580, by decide, by decide, by decide +kernel⟩, w_579⟩
theorem w_581 : Cond.methodLink RJ1 9 yJ0_checkIndex_df160 ∈ Tw := tw_of (i := 581) (by decide +kernel) (by decide +kernel)
theorem w_583 : Cond.code yJ0_checkIndex_df160 cJ0_checkIndex_df160 2 none ∈ Tw := tw_of (i := 583) (by decide +kernel) (by decide +kernel)
theorem w_582 : Cond.static yJ0_checkIndex_df160 ∈ Tw := tw_of (i := 582) (by decide +kernel) (by decide +kernel)
theorem mlJ1_9 : MLs RJ1 9 kJ0_checkIndex_df160 2 := ⟨⟨w_581, w_13, w_583, by decide, by decide, by decide +kernel⟩, w_582⟩
theorem w_586 : Cond.methodLink RJ0 1059 yJ3_checkIndex_8e157 ∈ Tw := tw_of (i := 586) (by decide +kernel) (by decide +kernel)
theorem w_15 : Cond.initialized RJ3 ∈ Tw := tw_of (i := 15) (by decide +kernel) (by decide +kernel)
theorem w_588 : Cond.code yJ3_checkIndex_8e157 cJ3_checkIndex_8e157 3 (some .int) ∈ Tw := tw_of (i := 588) (by decide +kernel) (by decide +kernel)
theorem w_587 : Cond.static yJ3_checkIndex_8e157 ∈ Tw := tw_of (i := 587) (by decide +kernel) (by decide +kernel)
theorem mlJ0_1059 : MLs RJ0 1059 kJ3_checkIndex_8e157 3 := ⟨⟨w_586, w_15, w_588, by decide, by decide, by decide +kernel⟩, w_587⟩
theorem w_589 : Cond.methodLink RJ0 498 yJ2_charAt_3b067 ∈ Tw := tw_of (i := 589) (by decide +kernel) (by decide +kernel)
theorem w_16 : Cond.initialized RJ2 ∈ Tw := tw_of (i := 16) (by decide +kernel) (by decide +kernel)
theorem w_591 : Cond.code yJ2_charAt_3b067 cJ2_charAt_3b067 2 (some .char) ∈ Tw := tw_of (i := 591) (by decide +kernel) (by decide +kernel)
theorem w_590 : Cond.static yJ2_charAt_3b067 ∈ Tw := tw_of (i := 590) (by decide +kernel) (by decide +kernel)
theorem mlJ0_498 : MLs RJ0 498 kJ2_charAt_3b067 2 := ⟨⟨w_589, w_16, w_591, by decide, by decide, by decide +kernel⟩, w_590⟩
theorem w_592 : Cond.methodLink RJ2 67 yJ2_checkIndex_2214a ∈ Tw := tw_of (i := 592) (by decide +kernel) (by decide +kernel)
theorem w_594 : Cond.code yJ2_checkIndex_2214a cJ2_checkIndex_2214a 2 none ∈ Tw := tw_of (i := 594) (by decide +kernel) (by decide +kernel)
theorem w_593 : Cond.static yJ2_checkIndex_2214a ∈ Tw := tw_of (i := 593) (by decide +kernel) (by decide +kernel)
theorem mlJ2_67 : MLs RJ2 67 kJ2_checkIndex_2214a 2 := ⟨⟨w_592, w_16, w_594, by decide, by decide, by decide +kernel⟩, w_593⟩
theorem w_595 : Cond.methodLink RJ2 48 yJ2_length_9d52b ∈ Tw := tw_of (i := 595) (by decide +kernel) (by decide +kernel)
theorem w_597 : Cond.code yJ2_length_9d52b cJ2_length_9d52b 1 (some .int) ∈ Tw := tw_of (i := 597) (by decide +kernel) (by decide +kernel)
theorem w_596 : Cond.static yJ2_length_9d52b ∈ Tw := tw_of (i := 596) (by decide +kernel) (by decide +kernel)
theorem mlJ2_48 : MLs RJ2 48 kJ2_length_9d52b 1 := ⟨⟨w_595, w_16, w_597, by decide, by decide, by decide +kernel⟩, w_596⟩
theorem w_598 : Cond.methodLink RJ2 414 yJ0_checkIndex_df160 ∈ Tw := tw_of (i := 598) (by decide +kernel) (by decide +kernel)
theorem mlJ2_414 : MLs RJ2 414 kJ0_checkIndex_df160 2 := ⟨⟨w_598, w_13, w_583, by decide, by decide, by decide +kernel⟩, w_582⟩
theorem w_599 : Cond.methodLink RJ2 71 yJ2_getChar_3b067 ∈ Tw := tw_of (i := 599) (by decide +kernel) (by decide +kernel)
theorem w_601 : Cond.code yJ2_getChar_3b067 cJ2_getChar_3b067 2 (some .char) ∈ Tw := tw_of (i := 601) (by decide +kernel) (by decide +kernel)
theorem w_600 : Cond.static yJ2_getChar_3b067 ∈ Tw := tw_of (i := 600) (by decide +kernel) (by decide +kernel)
theorem mlJ2_71 : MLs RJ2 71 kJ2_getChar_3b067 2 := ⟨⟨w_599, w_16, w_601, by decide, by decide, by decide +kernel⟩, w_600⟩
theorem w_608 : Cond.methodLink RX3 36 yX3_tellField ∈ Tw := tw_of (i := 608) (by decide +kernel) (by decide +kernel)
theorem w_610 : Cond.code yX3_tellField cX3_tellField 3 (some .boolean) ∈ Tw := tw_of (i := 610) (by decide +kernel) (by decide +kernel)
theorem w_609 : Cond.static yX3_tellField ∈ Tw := tw_of (i := 609) (by decide +kernel) (by decide +kernel)
theorem mlX3_36 : MLs RX3 36 kX3_tellField 2 := ⟨⟨w_608, w_12, w_610, by decide, by decide, by decide +kernel⟩, w_609⟩
theorem w_611 : Cond.methodLink RX3 27 yX2_advance ∈ Tw := tw_of (i := 611) (by decide +kernel) (by decide +kernel)
theorem mlX3_27 : MLv RX3 27 kX2_advance 0 := ⟨⟨w_611, w_4, w_544, by decide, by decide, by decide +kernel⟩, w_542, w_543⟩
theorem w_613 : Cond.methodLink RX3 59 yX2_isNumberBelow ∈ Tw := tw_of (i := 613) (by decide +kernel) (by decide +kernel)
theorem w_616 : Cond.code yX2_isNumberBelow cX2_isNumberBelow 2 (some .boolean) ∈ Tw := tw_of (i := 616) (by decide +kernel) (by decide +kernel)
theorem w_615 : Cond.selects RX2 yX2_isNumberBelow yX2_isNumberBelow ∈ Tw := tw_of (i := 615) (by decide +kernel) (by decide +kernel)
theorem w_614 : Cond.instanceMethod yX2_isNumberBelow ∈ Tw := tw_of (i := 614) (by decide +kernel) (by decide +kernel)
theorem mlX3_59 : MLv RX3 59 kX2_isNumberBelow 1 := ⟨⟨w_613, w_4, w_616, by decide, by decide, by decide +kernel⟩, w_614, w_615⟩
theorem w_617 : Cond.methodLink RX3 66 yX0_addField ∈ Tw := tw_of (i := 617) (by decide +kernel) (by decide +kernel)
theorem mlX3_66 : MLv RX3 66 kX0_addField 1 := ⟨⟨w_617, w_2, w_184, by decide, by decide, by decide +kernel⟩, w_182, w_183⟩
theorem w_619 : Cond.methodLink RX3 41 yX3_tellGlue ∈ Tw := tw_of (i := 619) (by decide +kernel) (by decide +kernel)
theorem w_621 : Cond.code yX3_tellGlue cX3_tellGlue 4 (some .boolean) ∈ Tw := tw_of (i := 621) (by decide +kernel) (by decide +kernel)
theorem w_620 : Cond.static yX3_tellGlue ∈ Tw := tw_of (i := 620) (by decide +kernel) (by decide +kernel)
theorem mlX3_41 : MLs RX3 41 kX3_tellGlue 2 := ⟨⟨w_619, w_12, w_621, by decide, by decide, by decide +kernel⟩, w_620⟩
theorem w_622 : Cond.methodLink RX3 70 yX3_lookAtSide ∈ Tw := tw_of (i := 622) (by decide +kernel) (by decide +kernel)
theorem w_624 : Cond.code yX3_lookAtSide cX3_lookAtSide 4 (some .int) ∈ Tw := tw_of (i := 624) (by decide +kernel) (by decide +kernel)
theorem w_623 : Cond.static yX3_lookAtSide ∈ Tw := tw_of (i := 623) (by decide +kernel) (by decide +kernel)
theorem mlX3_70 : MLs RX3 70 kX3_lookAtSide 2 := ⟨⟨w_622, w_12, w_624, by decide, by decide, by decide +kernel⟩, w_623⟩
theorem w_625 : Cond.methodLink RX3 98 yX3_sideNamed ∈ Tw := tw_of (i := 625) (by decide +kernel) (by decide +kernel)
theorem w_627 : Cond.code yX3_sideNamed cX3_sideNamed 2 (some .int) ∈ Tw := tw_of (i := 627) (by decide +kernel) (by decide +kernel)
theorem w_626 : Cond.static yX3_sideNamed ∈ Tw := tw_of (i := 626) (by decide +kernel) (by decide +kernel)
theorem mlX3_98 : MLs RX3 98 kX3_sideNamed 1 := ⟨⟨w_625, w_12, w_627, by decide, by decide, by decide +kernel⟩, w_626⟩
theorem w_628 : Cond.methodLink RX3 104 yX3_sideName ∈ Tw := tw_of (i := 628) (by decide +kernel) (by decide +kernel)
theorem w_630 : Cond.code yX3_sideName cX3_sideName 1 (some (.object "java/lang/String")) ∈ Tw := tw_of (i := 630) (by decide +kernel) (by decide +kernel)
theorem w_629 : Cond.static yX3_sideName ∈ Tw := tw_of (i := 629) (by decide +kernel) (by decide +kernel)
theorem mlX3_104 : MLs RX3 104 kX3_sideName 1 := ⟨⟨w_628, w_12, w_630, by decide, by decide, by decide +kernel⟩, w_629⟩
theorem w_636 : Cond.methodLink RX3 74 yX0_isFree ∈ Tw := tw_of (i := 636) (by decide +kernel) (by decide +kernel)
theorem mlX3_74 : MLv RX3 74 kX0_isFree 1 := ⟨⟨w_636, w_2, w_208, by decide, by decide, by decide +kernel⟩, w_206, w_207⟩
theorem w_637 : Cond.methodLink RX3 77 yX0_join ∈ Tw := tw_of (i := 637) (by decide +kernel) (by decide +kernel)
theorem mlX3_77 : MLv RX3 77 kX0_join 2 := ⟨⟨w_637, w_2, w_246, by decide, by decide, by decide +kernel⟩, w_244, w_245⟩
theorem w_639 : Cond.methodLink RX3 46 yX3_tellCut ∈ Tw := tw_of (i := 639) (by decide +kernel) (by decide +kernel)
theorem w_641 : Cond.code yX3_tellCut cX3_tellCut 3 (some .boolean) ∈ Tw := tw_of (i := 641) (by decide +kernel) (by decide +kernel)
theorem w_640 : Cond.static yX3_tellCut ∈ Tw := tw_of (i := 640) (by decide +kernel) (by decide +kernel)
theorem mlX3_46 : MLs RX3 46 kX3_tellCut 2 := ⟨⟨w_639, w_12, w_641, by decide, by decide, by decide +kernel⟩, w_640⟩
theorem w_642 : Cond.methodLink RX3 81 yX0_sever ∈ Tw := tw_of (i := 642) (by decide +kernel) (by decide +kernel)
theorem mlX3_81 : MLv RX3 81 kX0_sever 1 := ⟨⟨w_642, w_2, w_255, by decide, by decide, by decide +kernel⟩, w_253, w_254⟩
theorem w_643 : Cond.methodLink RX3 49 yX3_tellWalker ∈ Tw := tw_of (i := 643) (by decide +kernel) (by decide +kernel)
theorem w_645 : Cond.code yX3_tellWalker cX3_tellWalker 4 (some .boolean) ∈ Tw := tw_of (i := 645) (by decide +kernel) (by decide +kernel)
theorem w_644 : Cond.static yX3_tellWalker ∈ Tw := tw_of (i := 644) (by decide +kernel) (by decide +kernel)
theorem mlX3_49 : MLs RX3 49 kX3_tellWalker 2 := ⟨⟨w_643, w_12, w_645, by decide, by decide, by decide +kernel⟩, w_644⟩
theorem w_646 : Cond.methodLink RX3 85 yX3_kindNamed ∈ Tw := tw_of (i := 646) (by decide +kernel) (by decide +kernel)
theorem w_648 : Cond.code yX3_kindNamed cX3_kindNamed 2 (some .int) ∈ Tw := tw_of (i := 648) (by decide +kernel) (by decide +kernel)
theorem w_647 : Cond.static yX3_kindNamed ∈ Tw := tw_of (i := 647) (by decide +kernel) (by decide +kernel)
theorem mlX3_85 : MLs RX3 85 kX3_kindNamed 1 := ⟨⟨w_646, w_12, w_648, by decide, by decide, by decide +kernel⟩, w_647⟩
theorem w_649 : Cond.methodLink RX3 108 yX3_kindName ∈ Tw := tw_of (i := 649) (by decide +kernel) (by decide +kernel)
theorem w_651 : Cond.code yX3_kindName cX3_kindName 1 (some (.object "java/lang/String")) ∈ Tw := tw_of (i := 651) (by decide +kernel) (by decide +kernel)
theorem w_650 : Cond.static yX3_kindName ∈ Tw := tw_of (i := 650) (by decide +kernel) (by decide +kernel)
theorem mlX3_108 : MLs RX3 108 kX3_kindName 1 := ⟨⟨w_649, w_12, w_651, by decide, by decide, by decide +kernel⟩, w_650⟩
theorem w_659 : Cond.methodLink RX3 94 yX0_addWalker ∈ Tw := tw_of (i := 659) (by decide +kernel) (by decide +kernel)
theorem mlX3_94 : MLv RX3 94 kX0_addWalker 2 := ⟨⟨w_659, w_2, w_275, by decide, by decide, by decide +kernel⟩, w_273, w_274⟩
theorem w_661 : Cond.methodLink RL 166 yX5_sheet ∈ Tw := tw_of (i := 661) (by decide +kernel) (by decide +kernel)
theorem w_664 : Cond.code yX5_sheet cX5_sheet 5 (some .int) ∈ Tw := tw_of (i := 664) (by decide +kernel) (by decide +kernel)
theorem w_663 : Cond.selects RX5 yX5_sheet yX5_sheet ∈ Tw := tw_of (i := 663) (by decide +kernel) (by decide +kernel)
theorem w_662 : Cond.instanceMethod yX5_sheet ∈ Tw := tw_of (i := 662) (by decide +kernel) (by decide +kernel)
theorem mlL_166 : MLv RL 166 kX5_sheet 3 := ⟨⟨w_661, w_1, w_664, by decide, by decide, by decide +kernel⟩, w_662, w_663⟩
theorem w_665 : Cond.methodLink RX5 249 yX5_isSheet ∈ Tw := tw_of (i := 665) (by decide +kernel) (by decide +kernel)
theorem w_667 : Cond.code yX5_isSheet cX5_isSheet 1 (some .boolean) ∈ Tw := tw_of (i := 667) (by decide +kernel) (by decide +kernel)
theorem w_666 : Cond.static yX5_isSheet ∈ Tw := tw_of (i := 666) (by decide +kernel) (by decide +kernel)
theorem mlX5_249 : MLs RX5 249 kX5_isSheet 1 := ⟨⟨w_665, w_1, w_667, by decide, by decide, by decide +kernel⟩, w_666⟩
theorem w_669 : Cond.methodLink RX5 253 yX1_begin ∈ Tw := tw_of (i := 669) (by decide +kernel) (by decide +kernel)
theorem w_5 : Cond.initialized RX1 ∈ Tw := tw_of (i := 5) (by decide +kernel) (by decide +kernel)
theorem w_672 : Cond.code yX1_begin cX1_begin 3 none ∈ Tw := tw_of (i := 672) (by decide +kernel) (by decide +kernel)
theorem w_671 : Cond.selects RX1 yX1_begin yX1_begin ∈ Tw := tw_of (i := 671) (by decide +kernel) (by decide +kernel)
theorem w_670 : Cond.instanceMethod yX1_begin ∈ Tw := tw_of (i := 670) (by decide +kernel) (by decide +kernel)
theorem mlX5_253 : MLv RX5 253 kX1_begin 2 := ⟨⟨w_669, w_5, w_672, by decide, by decide, by decide +kernel⟩, w_670, w_671⟩
theorem w_673 : Cond.methodLink RX1 22 yJ7_fill_d0a16 ∈ Tw := tw_of (i := 673) (by decide +kernel) (by decide +kernel)
theorem w_675 : Cond.code yJ7_fill_d0a16 cJ7_fill_d0a16 5 none ∈ Tw := tw_of (i := 675) (by decide +kernel) (by decide +kernel)
theorem w_674 : Cond.static yJ7_fill_d0a16 ∈ Tw := tw_of (i := 674) (by decide +kernel) (by decide +kernel)
theorem mlX1_22 : MLs RX1 22 kJ7_fill_d0a16 2 := ⟨⟨w_673, w_9, w_675, by decide, by decide, by decide +kernel⟩, w_674⟩
theorem w_676 : Cond.methodLink RL 172 yX5_write ∈ Tw := tw_of (i := 676) (by decide +kernel) (by decide +kernel)
theorem w_679 : Cond.code yX5_write cX5_write 9 (some .long) ∈ Tw := tw_of (i := 679) (by decide +kernel) (by decide +kernel)
theorem w_678 : Cond.selects RX5 yX5_write yX5_write ∈ Tw := tw_of (i := 678) (by decide +kernel) (by decide +kernel)
theorem w_677 : Cond.instanceMethod yX5_write ∈ Tw := tw_of (i := 677) (by decide +kernel) (by decide +kernel)
theorem mlL_172 : MLv RL 172 kX5_write 3 := ⟨⟨w_676, w_1, w_679, by decide, by decide, by decide +kernel⟩, w_677, w_678⟩
theorem w_680 : Cond.methodLink RX5 259 yX5_sheetFinding ∈ Tw := tw_of (i := 680) (by decide +kernel) (by decide +kernel)
theorem w_683 : Cond.code yX5_sheetFinding cX5_sheetFinding 2 (some .int) ∈ Tw := tw_of (i := 683) (by decide +kernel) (by decide +kernel)
theorem ws_mlX5_259 : Cond.selects RX5 yX5_sheetFinding yX5_sheetFinding ∈ Tw := tw_sel (q := (⟨"BentPlain", "sheetFinding", "(I)I"⟩, 12)) (i := 5) (by decide +kernel)
theorem w_682 : Cond.instanceMethod yX5_sheetFinding ∈ Tw := tw_of (i := 682) (by decide +kernel) (by decide +kernel)
theorem mlX5_259 : MLv RX5 259 kX5_sheetFinding 1 := ⟨⟨w_680, w_1, w_683, by decide, by decide, by decide +kernel⟩, w_682, ws_mlX5_259⟩
theorem w_685 : Cond.methodLink RX5 266 yX1_lowestBits ∈ Tw := tw_of (i := 685) (by decide +kernel) (by decide +kernel)
theorem w_688 : Cond.code yX1_lowestBits cX1_lowestBits 3 (some .long) ∈ Tw := tw_of (i := 688) (by decide +kernel) (by decide +kernel)
theorem w_687 : Cond.selects RX1 yX1_lowestBits yX1_lowestBits ∈ Tw := tw_of (i := 687) (by decide +kernel) (by decide +kernel)
theorem w_686 : Cond.instanceMethod yX1_lowestBits ∈ Tw := tw_of (i := 686) (by decide +kernel) (by decide +kernel)
theorem mlX5_266 : MLv RX5 266 kX1_lowestBits 1 := ⟨⟨w_685, w_5, w_688, by decide, by decide, by decide +kernel⟩, w_686, w_687⟩
theorem w_689 : Cond.methodLink RL 177 yX5_copy ∈ Tw := tw_of (i := 689) (by decide +kernel) (by decide +kernel)
theorem w_692 : Cond.code yX5_copy cX5_copy 8 (some .int) ∈ Tw := tw_of (i := 692) (by decide +kernel) (by decide +kernel)
theorem w_691 : Cond.selects RX5 yX5_copy yX5_copy ∈ Tw := tw_of (i := 691) (by decide +kernel) (by decide +kernel)
theorem w_690 : Cond.instanceMethod yX5_copy ∈ Tw := tw_of (i := 690) (by decide +kernel) (by decide +kernel)
theorem mlL_177 : MLv RL 177 kX5_copy 5 := ⟨⟨w_689, w_1, w_692, by decide, by decide, by decide +kernel⟩, w_690, w_691⟩
theorem w_693 : Cond.methodLink RX5 274 yX1_hasRow ∈ Tw := tw_of (i := 693) (by decide +kernel) (by decide +kernel)
theorem w_696 : Cond.code yX1_hasRow cX1_hasRow 3 (some .boolean) ∈ Tw := tw_of (i := 696) (by decide +kernel) (by decide +kernel)
theorem w_695 : Cond.selects RX1 yX1_hasRow yX1_hasRow ∈ Tw := tw_of (i := 695) (by decide +kernel) (by decide +kernel)
theorem w_694 : Cond.instanceMethod yX1_hasRow ∈ Tw := tw_of (i := 694) (by decide +kernel) (by decide +kernel)
theorem mlX5_274 : MLv RX5 274 kX1_hasRow 2 := ⟨⟨w_693, w_5, w_696, by decide, by decide, by decide +kernel⟩, w_694, w_695⟩
theorem w_698 : Cond.methodLink RL 182 yX5_lays ∈ Tw := tw_of (i := 698) (by decide +kernel) (by decide +kernel)
theorem w_701 : Cond.code yX5_lays cX5_lays 8 (some .int) ∈ Tw := tw_of (i := 701) (by decide +kernel) (by decide +kernel)
theorem w_700 : Cond.selects RX5 yX5_lays yX5_lays ∈ Tw := tw_of (i := 700) (by decide +kernel) (by decide +kernel)
theorem w_699 : Cond.instanceMethod yX5_lays ∈ Tw := tw_of (i := 699) (by decide +kernel) (by decide +kernel)
theorem mlL_182 : MLv RL 182 kX5_lays 1 := ⟨⟨w_698, w_1, w_701, by decide, by decide, by decide +kernel⟩, w_699, w_700⟩
theorem w_703 : Cond.methodLink RL 186 yX5_book ∈ Tw := tw_of (i := 703) (by decide +kernel) (by decide +kernel)
theorem w_706 : Cond.code yX5_book cX5_book 6 (some .int) ∈ Tw := tw_of (i := 706) (by decide +kernel) (by decide +kernel)
theorem w_705 : Cond.selects RX5 yX5_book yX5_book ∈ Tw := tw_of (i := 705) (by decide +kernel) (by decide +kernel)
theorem w_704 : Cond.instanceMethod yX5_book ∈ Tw := tw_of (i := 704) (by decide +kernel) (by decide +kernel)
theorem mlL_186 : MLv RL 186 kX5_book 2 := ⟨⟨w_703, w_1, w_706, by decide, by decide, by decide +kernel⟩, w_704, w_705⟩
theorem w_707 : Cond.methodLink RX5 285 yX5_bookFinding ∈ Tw := tw_of (i := 707) (by decide +kernel) (by decide +kernel)
theorem w_710 : Cond.code yX5_bookFinding cX5_bookFinding 4 (some .int) ∈ Tw := tw_of (i := 710) (by decide +kernel) (by decide +kernel)
theorem ws_mlX5_285 : Cond.selects RX5 yX5_bookFinding yX5_bookFinding ∈ Tw := tw_sel (q := (⟨"BentPlain", "bookFinding", "(II)I"⟩, 12)) (i := 6) (by decide +kernel)
theorem w_709 : Cond.instanceMethod yX5_bookFinding ∈ Tw := tw_of (i := 709) (by decide +kernel) (by decide +kernel)
theorem mlX5_285 : MLv RX5 285 kX5_bookFinding 2 := ⟨⟨w_707, w_1, w_710, by decide, by decide, by decide +kernel⟩, w_709, ws_mlX5_285⟩
theorem w_711 : Cond.methodLink RL 190 yX5_read ∈ Tw := tw_of (i := 711) (by decide +kernel) (by decide +kernel)
theorem w_714 : Cond.code yX5_read cX5_read 6 (some .int) ∈ Tw := tw_of (i := 714) (by decide +kernel) (by decide +kernel)
theorem w_713 : Cond.selects RX5 yX5_read yX5_read ∈ Tw := tw_of (i := 713) (by decide +kernel) (by decide +kernel)
theorem w_712 : Cond.instanceMethod yX5_read ∈ Tw := tw_of (i := 712) (by decide +kernel) (by decide +kernel)
theorem mlL_190 : MLv RL 190 kX5_read 2 := ⟨⟨w_711, w_1, w_714, by decide, by decide, by decide +kernel⟩, w_712, w_713⟩
theorem w_715 : Cond.methodLink RX5 288 yX5_goesByBook ∈ Tw := tw_of (i := 715) (by decide +kernel) (by decide +kernel)
theorem w_718 : Cond.code yX5_goesByBook cX5_goesByBook 3 (some .boolean) ∈ Tw := tw_of (i := 718) (by decide +kernel) (by decide +kernel)
theorem ws_mlX5_288 : Cond.selects RX5 yX5_goesByBook yX5_goesByBook ∈ Tw := tw_sel (q := (⟨"BentPlain", "goesByBook", "(LBentPlain$Sheet;)Z"⟩, 12)) (i := 7) (by decide +kernel)
theorem w_717 : Cond.instanceMethod yX5_goesByBook ∈ Tw := tw_of (i := 717) (by decide +kernel) (by decide +kernel)
theorem mlX5_288 : MLv RX5 288 kX5_goesByBook 1 := ⟨⟨w_715, w_1, w_718, by decide, by decide, by decide +kernel⟩, w_717, ws_mlX5_288⟩
theorem w_719 : Cond.methodLink RL 194 yX5_image ∈ Tw := tw_of (i := 719) (by decide +kernel) (by decide +kernel)
theorem w_722 : Cond.code yX5_image cX5_image 1 (some .int) ∈ Tw := tw_of (i := 722) (by decide +kernel) (by decide +kernel)
theorem w_721 : Cond.selects RX5 yX5_image yX5_image ∈ Tw := tw_of (i := 721) (by decide +kernel) (by decide +kernel)
theorem w_720 : Cond.instanceMethod yX5_image ∈ Tw := tw_of (i := 720) (by decide +kernel) (by decide +kernel)
theorem mlL_194 : MLv RL 194 kX5_image 0 := ⟨⟨w_719, w_1, w_722, by decide, by decide, by decide +kernel⟩, w_720, w_721⟩
theorem w_723 : Cond.methodLink RL 198 yX5_undo ∈ Tw := tw_of (i := 723) (by decide +kernel) (by decide +kernel)
theorem w_726 : Cond.code yX5_undo cX5_undo 1 (some .int) ∈ Tw := tw_of (i := 726) (by decide +kernel) (by decide +kernel)
theorem w_725 : Cond.selects RX5 yX5_undo yX5_undo ∈ Tw := tw_of (i := 725) (by decide +kernel) (by decide +kernel)
theorem w_724 : Cond.instanceMethod yX5_undo ∈ Tw := tw_of (i := 724) (by decide +kernel) (by decide +kernel)
theorem mlL_198 : MLv RL 198 kX5_undo 0 := ⟨⟨w_723, w_1, w_726, by decide, by decide, by decide +kernel⟩, w_724, w_725⟩
theorem w_727 : Cond.methodLink RL 202 yX5_tear ∈ Tw := tw_of (i := 727) (by decide +kernel) (by decide +kernel)
theorem w_730 : Cond.code yX5_tear cX5_tear 2 (some .int) ∈ Tw := tw_of (i := 730) (by decide +kernel) (by decide +kernel)
theorem w_729 : Cond.selects RX5 yX5_tear yX5_tear ∈ Tw := tw_of (i := 729) (by decide +kernel) (by decide +kernel)
theorem w_728 : Cond.instanceMethod yX5_tear ∈ Tw := tw_of (i := 728) (by decide +kernel) (by decide +kernel)
theorem mlL_202 : MLv RL 202 kX5_tear 0 := ⟨⟨w_727, w_1, w_730, by decide, by decide, by decide +kernel⟩, w_728, w_729⟩
theorem w_731 : Cond.methodLink RL 206 yX5_count ∈ Tw := tw_of (i := 731) (by decide +kernel) (by decide +kernel)
theorem w_734 : Cond.code yX5_count cX5_count 2 (some .int) ∈ Tw := tw_of (i := 734) (by decide +kernel) (by decide +kernel)
theorem w_733 : Cond.selects RX5 yX5_count yX5_count ∈ Tw := tw_of (i := 733) (by decide +kernel) (by decide +kernel)
theorem w_732 : Cond.instanceMethod yX5_count ∈ Tw := tw_of (i := 732) (by decide +kernel) (by decide +kernel)
theorem mlL_206 : MLv RL 206 kX5_count 1 := ⟨⟨w_731, w_1, w_734, by decide, by decide, by decide +kernel⟩, w_732, w_733⟩
theorem w_735 : Cond.methodLink RX5 296 yX0_gluedSides ∈ Tw := tw_of (i := 735) (by decide +kernel) (by decide +kernel)
theorem w_738 : Cond.code yX0_gluedSides cX0_gluedSides 3 (some .int) ∈ Tw := tw_of (i := 738) (by decide +kernel) (by decide +kernel)
theorem w_737 : Cond.selects RX0 yX0_gluedSides yX0_gluedSides ∈ Tw := tw_of (i := 737) (by decide +kernel) (by decide +kernel)
theorem w_736 : Cond.instanceMethod yX0_gluedSides ∈ Tw := tw_of (i := 736) (by decide +kernel) (by decide +kernel)
theorem mlX5_296 : MLv RX5 296 kX0_gluedSides 0 := ⟨⟨w_735, w_2, w_738, by decide, by decide, by decide +kernel⟩, w_736, w_737⟩
theorem w_739 : Cond.methodLink RL 210 yX5_status ∈ Tw := tw_of (i := 739) (by decide +kernel) (by decide +kernel)
theorem w_742 : Cond.code yX5_status cX5_status 4 (some .int) ∈ Tw := tw_of (i := 742) (by decide +kernel) (by decide +kernel)
theorem w_741 : Cond.selects RX5 yX5_status yX5_status ∈ Tw := tw_of (i := 741) (by decide +kernel) (by decide +kernel)
theorem w_740 : Cond.instanceMethod yX5_status ∈ Tw := tw_of (i := 740) (by decide +kernel) (by decide +kernel)
theorem mlL_210 : MLv RL 210 kX5_status 1 := ⟨⟨w_739, w_1, w_742, by decide, by decide, by decide +kernel⟩, w_740, w_741⟩
theorem w_801 : Cond.methodLink RL 17 yX6_field ∈ Tw := tw_of (i := 801) (by decide +kernel) (by decide +kernel)
theorem w_6 : Cond.initialized RX6 ∈ Tw := tw_of (i := 6) (by decide +kernel) (by decide +kernel)
theorem w_804 : Cond.code yX6_field cX6_field 2 (some .int) ∈ Tw := tw_of (i := 804) (by decide +kernel) (by decide +kernel)
theorem w_803 : Cond.selects RX6 yX6_field yX6_field ∈ Tw := tw_of (i := 803) (by decide +kernel) (by decide +kernel)
theorem w_802 : Cond.instanceMethod yX6_field ∈ Tw := tw_of (i := 802) (by decide +kernel) (by decide +kernel)
theorem mlL_17 : MLv RL 17 kX6_field 1 := ⟨⟨w_801, w_6, w_804, by decide, by decide, by decide +kernel⟩, w_802, w_803⟩
theorem w_806 : Cond.methodLink RX6 45 yX6_in ∈ Tw := tw_of (i := 806) (by decide +kernel) (by decide +kernel)
theorem w_808 : Cond.code yX6_in cX6_in 6 (some .boolean) ∈ Tw := tw_of (i := 808) (by decide +kernel) (by decide +kernel)
theorem w_807 : Cond.static yX6_in ∈ Tw := tw_of (i := 807) (by decide +kernel) (by decide +kernel)
theorem mlX6_45 : MLs RX6 45 kX6_in 3 := ⟨⟨w_806, w_6, w_808, by decide, by decide, by decide +kernel⟩, w_807⟩
theorem w_810 : Cond.methodLink RX6 69 yX6_finds ∈ Tw := tw_of (i := 810) (by decide +kernel) (by decide +kernel)
theorem w_813 : Cond.code yX6_finds cX6_finds 2 (some .int) ∈ Tw := tw_of (i := 813) (by decide +kernel) (by decide +kernel)
theorem ws_mlX6_69 : Cond.selects RX6 yX6_finds yX6_finds ∈ Tw := tw_sel (q := (⟨"BentPlainModel", "finds", "(I)I"⟩, 17)) (i := 8) (by decide +kernel)
theorem w_812 : Cond.instanceMethod yX6_finds ∈ Tw := tw_of (i := 812) (by decide +kernel) (by decide +kernel)
theorem mlX6_69 : MLv RX6 69 kX6_finds 1 := ⟨⟨w_810, w_6, w_813, by decide, by decide, by decide +kernel⟩, w_812, ws_mlX6_69⟩
theorem w_815 : Cond.methodLink RX6 74 yX6_adds ∈ Tw := tw_of (i := 815) (by decide +kernel) (by decide +kernel)
theorem w_818 : Cond.code yX6_adds cX6_adds 2 (some .int) ∈ Tw := tw_of (i := 818) (by decide +kernel) (by decide +kernel)
theorem ws_mlX6_74 : Cond.selects RX6 yX6_adds yX6_adds ∈ Tw := tw_sel (q := (⟨"BentPlainModel", "adds", "(I)I"⟩, 17)) (i := 9) (by decide +kernel)
theorem w_817 : Cond.instanceMethod yX6_adds ∈ Tw := tw_of (i := 817) (by decide +kernel) (by decide +kernel)
theorem mlX6_74 : MLv RX6 74 kX6_adds 1 := ⟨⟨w_815, w_6, w_818, by decide, by decide, by decide +kernel⟩, w_817, ws_mlX6_74⟩
theorem w_819 : Cond.methodLink RL 22 yX6_of ∈ Tw := tw_of (i := 819) (by decide +kernel) (by decide +kernel)
theorem w_822 : Cond.code yX6_of cX6_of 3 (some .int) ∈ Tw := tw_of (i := 822) (by decide +kernel) (by decide +kernel)
theorem w_821 : Cond.selects RX6 yX6_of yX6_of ∈ Tw := tw_of (i := 821) (by decide +kernel) (by decide +kernel)
theorem w_820 : Cond.instanceMethod yX6_of ∈ Tw := tw_of (i := 820) (by decide +kernel) (by decide +kernel)
theorem mlL_22 : MLv RL 22 kX6_of 2 := ⟨⟨w_819, w_6, w_822, by decide, by decide, by decide +kernel⟩, w_820, w_821⟩
theorem w_823 : Cond.methodLink RX6 53 yX6_isField ∈ Tw := tw_of (i := 823) (by decide +kernel) (by decide +kernel)
theorem w_826 : Cond.code yX6_isField cX6_isField 2 (some .boolean) ∈ Tw := tw_of (i := 826) (by decide +kernel) (by decide +kernel)
theorem ws_mlX6_53 : Cond.selects RX6 yX6_isField yX6_isField ∈ Tw := tw_sel (q := (⟨"BentPlainModel", "isField", "(I)Z"⟩, 17)) (i := 10) (by decide +kernel)
theorem w_825 : Cond.instanceMethod yX6_isField ∈ Tw := tw_of (i := 825) (by decide +kernel) (by decide +kernel)
theorem mlX6_53 : MLv RX6 53 kX6_isField 1 := ⟨⟨w_823, w_6, w_826, by decide, by decide, by decide +kernel⟩, w_825, ws_mlX6_53⟩
theorem w_828 : Cond.methodLink RX6 79 yX6_gluedOf ∈ Tw := tw_of (i := 828) (by decide +kernel) (by decide +kernel)
theorem w_831 : Cond.code yX6_gluedOf cX6_gluedOf 4 (some .int) ∈ Tw := tw_of (i := 831) (by decide +kernel) (by decide +kernel)
theorem ws_mlX6_79 : Cond.selects RX6 yX6_gluedOf yX6_gluedOf ∈ Tw := tw_sel (q := (⟨"BentPlainModel", "gluedOf", "(I)I"⟩, 17)) (i := 11) (by decide +kernel)
theorem w_830 : Cond.instanceMethod yX6_gluedOf ∈ Tw := tw_of (i := 830) (by decide +kernel) (by decide +kernel)
theorem mlX6_79 : MLv RX6 79 kX6_gluedOf 1 := ⟨⟨w_828, w_6, w_831, by decide, by decide, by decide +kernel⟩, w_830, ws_mlX6_79⟩
theorem w_832 : Cond.methodLink RX6 82 yX6_those ∈ Tw := tw_of (i := 832) (by decide +kernel) (by decide +kernel)
theorem w_835 : Cond.code yX6_those cX6_those 4 (some .int) ∈ Tw := tw_of (i := 835) (by decide +kernel) (by decide +kernel)
theorem ws_mlX6_82 : Cond.selects RX6 yX6_those yX6_those ∈ Tw := tw_sel (q := (⟨"BentPlainModel", "those", "(I)I"⟩, 17)) (i := 12) (by decide +kernel)
theorem w_834 : Cond.instanceMethod yX6_those ∈ Tw := tw_of (i := 834) (by decide +kernel) (by decide +kernel)
theorem mlX6_82 : MLv RX6 82 kX6_those 1 := ⟨⟨w_832, w_6, w_835, by decide, by decide, by decide +kernel⟩, w_834, ws_mlX6_82⟩
theorem w_836 : Cond.methodLink RX6 64 yX6_partOf ∈ Tw := tw_of (i := 836) (by decide +kernel) (by decide +kernel)
theorem w_839 : Cond.code yX6_partOf cX6_partOf 3 (some .int) ∈ Tw := tw_of (i := 839) (by decide +kernel) (by decide +kernel)
theorem ws_mlX6_64 : Cond.selects RX6 yX6_partOf yX6_partOf ∈ Tw := tw_sel (q := (⟨"BentPlainModel", "partOf", "(II)I"⟩, 17)) (i := 13) (by decide +kernel)
theorem w_838 : Cond.instanceMethod yX6_partOf ∈ Tw := tw_of (i := 838) (by decide +kernel) (by decide +kernel)
theorem mlX6_64 : MLv RX6 64 kX6_partOf 2 := ⟨⟨w_836, w_6, w_839, by decide, by decide, by decide +kernel⟩, w_838, ws_mlX6_64⟩
theorem w_840 : Cond.methodLink RX6 60 yX6_spot ∈ Tw := tw_of (i := 840) (by decide +kernel) (by decide +kernel)
theorem w_842 : Cond.code yX6_spot cX6_spot 2 (some .int) ∈ Tw := tw_of (i := 842) (by decide +kernel) (by decide +kernel)
theorem w_841 : Cond.static yX6_spot ∈ Tw := tw_of (i := 841) (by decide +kernel) (by decide +kernel)
theorem mlX6_60 : MLs RX6 60 kX6_spot 2 := ⟨⟨w_840, w_6, w_842, by decide, by decide, by decide +kernel⟩, w_841⟩
theorem w_843 : Cond.methodLink RL 26 yX6_rough ∈ Tw := tw_of (i := 843) (by decide +kernel) (by decide +kernel)
theorem w_846 : Cond.code yX6_rough cX6_rough 3 (some .int) ∈ Tw := tw_of (i := 846) (by decide +kernel) (by decide +kernel)
theorem w_845 : Cond.selects RX6 yX6_rough yX6_rough ∈ Tw := tw_of (i := 845) (by decide +kernel) (by decide +kernel)
theorem w_844 : Cond.instanceMethod yX6_rough ∈ Tw := tw_of (i := 844) (by decide +kernel) (by decide +kernel)
theorem mlL_26 : MLv RL 26 kX6_rough 2 := ⟨⟨w_843, w_6, w_846, by decide, by decide, by decide +kernel⟩, w_844, w_845⟩
theorem w_847 : Cond.methodLink RX6 85 yX6_becomes ∈ Tw := tw_of (i := 847) (by decide +kernel) (by decide +kernel)
theorem w_850 : Cond.code yX6_becomes cX6_becomes 4 (some .int) ∈ Tw := tw_of (i := 850) (by decide +kernel) (by decide +kernel)
theorem ws_mlX6_85 : Cond.selects RX6 yX6_becomes yX6_becomes ∈ Tw := tw_sel (q := (⟨"BentPlainModel", "becomes", "(II)I"⟩, 17)) (i := 14) (by decide +kernel)
theorem w_849 : Cond.instanceMethod yX6_becomes ∈ Tw := tw_of (i := 849) (by decide +kernel) (by decide +kernel)
theorem mlX6_85 : MLv RX6 85 kX6_becomes 2 := ⟨⟨w_847, w_6, w_850, by decide, by decide, by decide +kernel⟩, w_849, ws_mlX6_85⟩
theorem w_851 : Cond.methodLink RL 31 yX6_glue ∈ Tw := tw_of (i := 851) (by decide +kernel) (by decide +kernel)
theorem w_854 : Cond.code yX6_glue cX6_glue 5 (some .int) ∈ Tw := tw_of (i := 854) (by decide +kernel) (by decide +kernel)
theorem w_853 : Cond.selects RX6 yX6_glue yX6_glue ∈ Tw := tw_of (i := 853) (by decide +kernel) (by decide +kernel)
theorem w_852 : Cond.instanceMethod yX6_glue ∈ Tw := tw_of (i := 852) (by decide +kernel) (by decide +kernel)
theorem mlL_31 : MLv RL 31 kX6_glue 4 := ⟨⟨w_851, w_6, w_854, by decide, by decide, by decide +kernel⟩, w_852, w_853⟩
theorem w_855 : Cond.methodLink RX6 88 yX6_isWay ∈ Tw := tw_of (i := 855) (by decide +kernel) (by decide +kernel)
theorem w_858 : Cond.code yX6_isWay cX6_isWay 3 (some .boolean) ∈ Tw := tw_of (i := 858) (by decide +kernel) (by decide +kernel)
theorem ws_mlX6_88 : Cond.selects RX6 yX6_isWay yX6_isWay ∈ Tw := tw_sel (q := (⟨"BentPlainModel", "isWay", "(II)Z"⟩, 17)) (i := 15) (by decide +kernel)
theorem w_857 : Cond.instanceMethod yX6_isWay ∈ Tw := tw_of (i := 857) (by decide +kernel) (by decide +kernel)
theorem mlX6_88 : MLv RX6 88 kX6_isWay 2 := ⟨⟨w_855, w_6, w_858, by decide, by decide, by decide +kernel⟩, w_857, ws_mlX6_88⟩
theorem w_859 : Cond.methodLink RX6 57 yX6_isSide ∈ Tw := tw_of (i := 859) (by decide +kernel) (by decide +kernel)
theorem w_861 : Cond.code yX6_isSide cX6_isSide 1 (some .boolean) ∈ Tw := tw_of (i := 861) (by decide +kernel) (by decide +kernel)
theorem w_860 : Cond.static yX6_isSide ∈ Tw := tw_of (i := 860) (by decide +kernel) (by decide +kernel)
theorem mlX6_57 : MLs RX6 57 kX6_isSide 1 := ⟨⟨w_859, w_6, w_861, by decide, by decide, by decide +kernel⟩, w_860⟩
theorem w_864 : Cond.methodLink RX6 93 yX6_glues ∈ Tw := tw_of (i := 864) (by decide +kernel) (by decide +kernel)
theorem w_867 : Cond.code yX6_glues cX6_glues 3 none ∈ Tw := tw_of (i := 867) (by decide +kernel) (by decide +kernel)
theorem ws_mlX6_93 : Cond.selects RX6 yX6_glues yX6_glues ∈ Tw := tw_sel (q := (⟨"BentPlainModel", "glues", "(II)V"⟩, 17)) (i := 16) (by decide +kernel)
theorem w_866 : Cond.instanceMethod yX6_glues ∈ Tw := tw_of (i := 866) (by decide +kernel) (by decide +kernel)
theorem mlX6_93 : MLv RX6 93 kX6_glues 2 := ⟨⟨w_864, w_6, w_867, by decide, by decide, by decide +kernel⟩, w_866, ws_mlX6_93⟩
theorem w_868 : Cond.methodLink RL 35 yX6_cut ∈ Tw := tw_of (i := 868) (by decide +kernel) (by decide +kernel)
theorem w_871 : Cond.code yX6_cut cX6_cut 4 (some .int) ∈ Tw := tw_of (i := 871) (by decide +kernel) (by decide +kernel)
theorem w_870 : Cond.selects RX6 yX6_cut yX6_cut ∈ Tw := tw_of (i := 870) (by decide +kernel) (by decide +kernel)
theorem w_869 : Cond.instanceMethod yX6_cut ∈ Tw := tw_of (i := 869) (by decide +kernel) (by decide +kernel)
theorem mlL_35 : MLv RL 35 kX6_cut 2 := ⟨⟨w_868, w_6, w_871, by decide, by decide, by decide +kernel⟩, w_869, w_870⟩
theorem w_872 : Cond.methodLink RX6 97 yX6_cuts ∈ Tw := tw_of (i := 872) (by decide +kernel) (by decide +kernel)
theorem w_875 : Cond.code yX6_cuts cX6_cuts 2 none ∈ Tw := tw_of (i := 875) (by decide +kernel) (by decide +kernel)
theorem ws_mlX6_97 : Cond.selects RX6 yX6_cuts yX6_cuts ∈ Tw := tw_sel (q := (⟨"BentPlainModel", "cuts", "(I)V"⟩, 17)) (i := 17) (by decide +kernel)
theorem w_874 : Cond.instanceMethod yX6_cuts ∈ Tw := tw_of (i := 874) (by decide +kernel) (by decide +kernel)
theorem mlX6_97 : MLv RX6 97 kX6_cuts 1 := ⟨⟨w_872, w_6, w_875, by decide, by decide, by decide +kernel⟩, w_874, ws_mlX6_97⟩
theorem w_876 : Cond.methodLink RL 39 yX6_over ∈ Tw := tw_of (i := 876) (by decide +kernel) (by decide +kernel)
theorem w_879 : Cond.code yX6_over cX6_over 4 (some .int) ∈ Tw := tw_of (i := 879) (by decide +kernel) (by decide +kernel)
theorem w_878 : Cond.selects RX6 yX6_over yX6_over ∈ Tw := tw_of (i := 878) (by decide +kernel) (by decide +kernel)
theorem w_877 : Cond.instanceMethod yX6_over ∈ Tw := tw_of (i := 877) (by decide +kernel) (by decide +kernel)
theorem mlL_39 : MLv RL 39 kX6_over 2 := ⟨⟨w_876, w_6, w_879, by decide, by decide, by decide +kernel⟩, w_877, w_878⟩
theorem w_881 : Cond.methodLink RL 44 yX6_walker ∈ Tw := tw_of (i := 881) (by decide +kernel) (by decide +kernel)
theorem w_884 : Cond.code yX6_walker cX6_walker 4 (some .int) ∈ Tw := tw_of (i := 884) (by decide +kernel) (by decide +kernel)
theorem w_883 : Cond.selects RX6 yX6_walker yX6_walker ∈ Tw := tw_of (i := 883) (by decide +kernel) (by decide +kernel)
theorem w_882 : Cond.instanceMethod yX6_walker ∈ Tw := tw_of (i := 882) (by decide +kernel) (by decide +kernel)
theorem mlL_44 : MLv RL 44 kX6_walker 3 := ⟨⟨w_881, w_6, w_884, by decide, by decide, by decide +kernel⟩, w_882, w_883⟩
theorem w_885 : Cond.methodLink RX6 102 yX6_isKind ∈ Tw := tw_of (i := 885) (by decide +kernel) (by decide +kernel)
theorem w_887 : Cond.code yX6_isKind cX6_isKind 1 (some .boolean) ∈ Tw := tw_of (i := 887) (by decide +kernel) (by decide +kernel)
theorem w_886 : Cond.static yX6_isKind ∈ Tw := tw_of (i := 886) (by decide +kernel) (by decide +kernel)
theorem mlX6_102 : MLs RX6 102 kX6_isKind 1 := ⟨⟨w_885, w_6, w_887, by decide, by decide, by decide +kernel⟩, w_886⟩
theorem w_889 : Cond.methodLink RX6 105 yX6_comes ∈ Tw := tw_of (i := 889) (by decide +kernel) (by decide +kernel)
theorem w_892 : Cond.code yX6_comes cX6_comes 5 (some .int) ∈ Tw := tw_of (i := 892) (by decide +kernel) (by decide +kernel)
theorem ws_mlX6_105 : Cond.selects RX6 yX6_comes yX6_comes ∈ Tw := tw_sel (q := (⟨"BentPlainModel", "comes", "(III)I"⟩, 17)) (i := 18) (by decide +kernel)
theorem w_891 : Cond.instanceMethod yX6_comes ∈ Tw := tw_of (i := 891) (by decide +kernel) (by decide +kernel)
theorem mlX6_105 : MLv RX6 105 kX6_comes 3 := ⟨⟨w_889, w_6, w_892, by decide, by decide, by decide +kernel⟩, w_891, ws_mlX6_105⟩
theorem w_893 : Cond.methodLink RL 48 yX6_its ∈ Tw := tw_of (i := 893) (by decide +kernel) (by decide +kernel)
theorem w_896 : Cond.code yX6_its cX6_its 3 (some .int) ∈ Tw := tw_of (i := 896) (by decide +kernel) (by decide +kernel)
theorem w_895 : Cond.selects RX6 yX6_its yX6_its ∈ Tw := tw_of (i := 895) (by decide +kernel) (by decide +kernel)
theorem w_894 : Cond.instanceMethod yX6_its ∈ Tw := tw_of (i := 894) (by decide +kernel) (by decide +kernel)
theorem mlL_48 : MLv RL 48 kX6_its 2 := ⟨⟨w_893, w_6, w_896, by decide, by decide, by decide +kernel⟩, w_894, w_895⟩
theorem w_897 : Cond.methodLink RX6 124 yX6_isWalker ∈ Tw := tw_of (i := 897) (by decide +kernel) (by decide +kernel)
theorem w_900 : Cond.code yX6_isWalker cX6_isWalker 2 (some .boolean) ∈ Tw := tw_of (i := 900) (by decide +kernel) (by decide +kernel)
theorem ws_mlX6_124 : Cond.selects RX6 yX6_isWalker yX6_isWalker ∈ Tw := tw_sel (q := (⟨"BentPlainModel", "isWalker", "(I)Z"⟩, 17)) (i := 19) (by decide +kernel)
theorem w_899 : Cond.instanceMethod yX6_isWalker ∈ Tw := tw_of (i := 899) (by decide +kernel) (by decide +kernel)
theorem mlX6_124 : MLv RX6 124 kX6_isWalker 1 := ⟨⟨w_897, w_6, w_900, by decide, by decide, by decide +kernel⟩, w_899, ws_mlX6_124⟩
theorem w_901 : Cond.methodLink RX6 118 yX6_pays ∈ Tw := tw_of (i := 901) (by decide +kernel) (by decide +kernel)
theorem w_903 : Cond.code yX6_pays cX6_pays 2 (some .int) ∈ Tw := tw_of (i := 903) (by decide +kernel) (by decide +kernel)
theorem w_902 : Cond.static yX6_pays ∈ Tw := tw_of (i := 902) (by decide +kernel) (by decide +kernel)
theorem mlX6_118 : MLs RX6 118 kX6_pays 2 := ⟨⟨w_901, w_6, w_903, by decide, by decide, by decide +kernel⟩, w_902⟩
theorem w_904 : Cond.methodLink RL 52 yX6_place ∈ Tw := tw_of (i := 904) (by decide +kernel) (by decide +kernel)
theorem w_907 : Cond.code yX6_place cX6_place 5 (some .int) ∈ Tw := tw_of (i := 907) (by decide +kernel) (by decide +kernel)
theorem w_906 : Cond.selects RX6 yX6_place yX6_place ∈ Tw := tw_of (i := 906) (by decide +kernel) (by decide +kernel)
theorem w_905 : Cond.instanceMethod yX6_place ∈ Tw := tw_of (i := 905) (by decide +kernel) (by decide +kernel)
theorem mlL_52 : MLv RL 52 kX6_place 3 := ⟨⟨w_904, w_6, w_907, by decide, by decide, by decide +kernel⟩, w_905, w_906⟩
theorem w_908 : Cond.methodLink RX6 109 yX6_wayOf ∈ Tw := tw_of (i := 908) (by decide +kernel) (by decide +kernel)
theorem w_911 : Cond.code yX6_wayOf cX6_wayOf 2 (some .int) ∈ Tw := tw_of (i := 911) (by decide +kernel) (by decide +kernel)
theorem ws_mlX6_109 : Cond.selects RX6 yX6_wayOf yX6_wayOf ∈ Tw := tw_sel (q := (⟨"BentPlainModel", "wayOf", "(I)I"⟩, 17)) (i := 20) (by decide +kernel)
theorem w_910 : Cond.instanceMethod yX6_wayOf ∈ Tw := tw_of (i := 910) (by decide +kernel) (by decide +kernel)
theorem mlX6_109 : MLv RX6 109 kX6_wayOf 1 := ⟨⟨w_908, w_6, w_911, by decide, by decide, by decide +kernel⟩, w_910, ws_mlX6_109⟩
theorem w_912 : Cond.methodLink RX6 127 yX6_stands ∈ Tw := tw_of (i := 912) (by decide +kernel) (by decide +kernel)
theorem w_915 : Cond.code yX6_stands cX6_stands 3 none ∈ Tw := tw_of (i := 915) (by decide +kernel) (by decide +kernel)
theorem ws_mlX6_127 : Cond.selects RX6 yX6_stands yX6_stands ∈ Tw := tw_sel (q := (⟨"BentPlainModel", "stands", "(II)V"⟩, 17)) (i := 21) (by decide +kernel)
theorem w_914 : Cond.instanceMethod yX6_stands ∈ Tw := tw_of (i := 914) (by decide +kernel) (by decide +kernel)
theorem mlX6_127 : MLv RX6 127 kX6_stands 2 := ⟨⟨w_912, w_6, w_915, by decide, by decide, by decide +kernel⟩, w_914, ws_mlX6_127⟩
theorem w_916 : Cond.methodLink RL 56 yX6_turn ∈ Tw := tw_of (i := 916) (by decide +kernel) (by decide +kernel)
theorem w_919 : Cond.code yX6_turn cX6_turn 3 (some .int) ∈ Tw := tw_of (i := 919) (by decide +kernel) (by decide +kernel)
theorem w_918 : Cond.selects RX6 yX6_turn yX6_turn ∈ Tw := tw_of (i := 918) (by decide +kernel) (by decide +kernel)
theorem w_917 : Cond.instanceMethod yX6_turn ∈ Tw := tw_of (i := 917) (by decide +kernel) (by decide +kernel)
theorem mlL_56 : MLv RL 56 kX6_turn 2 := ⟨⟨w_916, w_6, w_919, by decide, by decide, by decide +kernel⟩, w_917, w_918⟩
theorem w_920 : Cond.methodLink RL 60 yX6_as ∈ Tw := tw_of (i := 920) (by decide +kernel) (by decide +kernel)
theorem w_923 : Cond.code yX6_as cX6_as 4 (some .int) ∈ Tw := tw_of (i := 923) (by decide +kernel) (by decide +kernel)
theorem w_922 : Cond.selects RX6 yX6_as yX6_as ∈ Tw := tw_of (i := 922) (by decide +kernel) (by decide +kernel)
theorem w_921 : Cond.instanceMethod yX6_as ∈ Tw := tw_of (i := 921) (by decide +kernel) (by decide +kernel)
theorem mlL_60 : MLv RL 60 kX6_as 2 := ⟨⟨w_920, w_6, w_923, by decide, by decide, by decide +kernel⟩, w_921, w_922⟩
theorem w_924 : Cond.methodLink RX6 130 yX6_above ∈ Tw := tw_of (i := 924) (by decide +kernel) (by decide +kernel)
theorem w_926 : Cond.code yX6_above cX6_above 1 (some .int) ∈ Tw := tw_of (i := 926) (by decide +kernel) (by decide +kernel)
theorem w_925 : Cond.static yX6_above ∈ Tw := tw_of (i := 925) (by decide +kernel) (by decide +kernel)
theorem mlX6_130 : MLs RX6 130 kX6_above 1 := ⟨⟨w_924, w_6, w_926, by decide, by decide, by decide +kernel⟩, w_925⟩
theorem w_928 : Cond.methodLink RL 64 yX6_step ∈ Tw := tw_of (i := 928) (by decide +kernel) (by decide +kernel)
theorem w_931 : Cond.code yX6_step cX6_step 2 (some .int) ∈ Tw := tw_of (i := 931) (by decide +kernel) (by decide +kernel)
theorem w_930 : Cond.selects RX6 yX6_step yX6_step ∈ Tw := tw_of (i := 930) (by decide +kernel) (by decide +kernel)
theorem w_929 : Cond.instanceMethod yX6_step ∈ Tw := tw_of (i := 929) (by decide +kernel) (by decide +kernel)
theorem mlL_64 : MLv RL 64 kX6_step 1 := ⟨⟨w_928, w_6, w_931, by decide, by decide, by decide +kernel⟩, w_929, w_930⟩
theorem w_932 : Cond.methodLink RX6 134 yX6_goes ∈ Tw := tw_of (i := 932) (by decide +kernel) (by decide +kernel)
theorem w_935 : Cond.code yX6_goes cX6_goes 6 none ∈ Tw := tw_of (i := 935) (by decide +kernel) (by decide +kernel)
theorem ws_mlX6_134 : Cond.selects RX6 yX6_goes yX6_goes ∈ Tw := tw_sel (q := (⟨"BentPlainModel", "goes", "(I)V"⟩, 17)) (i := 22) (by decide +kernel)
theorem w_934 : Cond.instanceMethod yX6_goes ∈ Tw := tw_of (i := 934) (by decide +kernel) (by decide +kernel)
theorem mlX6_134 : MLv RX6 134 kX6_goes 1 := ⟨⟨w_932, w_6, w_935, by decide, by decide, by decide +kernel⟩, w_934, ws_mlX6_134⟩
theorem w_936 : Cond.methodLink RX6 112 yX6_onward ∈ Tw := tw_of (i := 936) (by decide +kernel) (by decide +kernel)
theorem w_939 : Cond.code yX6_onward cX6_onward 3 (some .int) ∈ Tw := tw_of (i := 939) (by decide +kernel) (by decide +kernel)
theorem ws_mlX6_112 : Cond.selects RX6 yX6_onward yX6_onward ∈ Tw := tw_sel (q := (⟨"BentPlainModel", "onward", "(I)I"⟩, 17)) (i := 23) (by decide +kernel)
theorem w_938 : Cond.instanceMethod yX6_onward ∈ Tw := tw_of (i := 938) (by decide +kernel) (by decide +kernel)
theorem mlX6_112 : MLv RX6 112 kX6_onward 1 := ⟨⟨w_936, w_6, w_939, by decide, by decide, by decide +kernel⟩, w_938, ws_mlX6_112⟩
theorem w_940 : Cond.methodLink RX6 115 yX6_atBump ∈ Tw := tw_of (i := 940) (by decide +kernel) (by decide +kernel)
theorem w_942 : Cond.code yX6_atBump cX6_atBump 1 (some .int) ∈ Tw := tw_of (i := 942) (by decide +kernel) (by decide +kernel)
theorem w_941 : Cond.static yX6_atBump ∈ Tw := tw_of (i := 941) (by decide +kernel) (by decide +kernel)
theorem mlX6_115 : MLs RX6 115 kX6_atBump 1 := ⟨⟨w_940, w_6, w_942, by decide, by decide, by decide +kernel⟩, w_941⟩
theorem w_943 : Cond.methodLink RX6 121 yX6_quarters ∈ Tw := tw_of (i := 943) (by decide +kernel) (by decide +kernel)
theorem w_945 : Cond.code yX6_quarters cX6_quarters 3 (some .int) ∈ Tw := tw_of (i := 945) (by decide +kernel) (by decide +kernel)
theorem w_944 : Cond.static yX6_quarters ∈ Tw := tw_of (i := 944) (by decide +kernel) (by decide +kernel)
theorem mlX6_121 : MLs RX6 121 kX6_quarters 3 := ⟨⟨w_943, w_6, w_945, by decide, by decide, by decide +kernel⟩, w_944⟩
theorem w_946 : Cond.methodLink RL 68 yX6_steps ∈ Tw := tw_of (i := 946) (by decide +kernel) (by decide +kernel)
theorem w_949 : Cond.code yX6_steps cX6_steps 3 (some .int) ∈ Tw := tw_of (i := 949) (by decide +kernel) (by decide +kernel)
theorem w_948 : Cond.selects RX6 yX6_steps yX6_steps ∈ Tw := tw_of (i := 948) (by decide +kernel) (by decide +kernel)
theorem w_947 : Cond.instanceMethod yX6_steps ∈ Tw := tw_of (i := 947) (by decide +kernel) (by decide +kernel)
theorem mlL_68 : MLv RL 68 kX6_steps 1 := ⟨⟨w_946, w_6, w_949, by decide, by decide, by decide +kernel⟩, w_947, w_948⟩
theorem w_951 : Cond.methodLink RX6 139 yX6_all ∈ Tw := tw_of (i := 951) (by decide +kernel) (by decide +kernel)
theorem w_954 : Cond.code yX6_all cX6_all 2 none ∈ Tw := tw_of (i := 954) (by decide +kernel) (by decide +kernel)
theorem ws_mlX6_139 : Cond.selects RX6 yX6_all yX6_all ∈ Tw := tw_sel (q := (⟨"BentPlainModel", "all", "()V"⟩, 17)) (i := 24) (by decide +kernel)
theorem w_953 : Cond.instanceMethod yX6_all ∈ Tw := tw_of (i := 953) (by decide +kernel) (by decide +kernel)
theorem mlX6_139 : MLv RX6 139 kX6_all 0 := ⟨⟨w_951, w_6, w_954, by decide, by decide, by decide +kernel⟩, w_953, ws_mlX6_139⟩
theorem w_955 : Cond.methodLink RX6 142 yX6_allMiles ∈ Tw := tw_of (i := 955) (by decide +kernel) (by decide +kernel)
theorem w_958 : Cond.code yX6_allMiles cX6_allMiles 3 (some .int) ∈ Tw := tw_of (i := 958) (by decide +kernel) (by decide +kernel)
theorem ws_mlX6_142 : Cond.selects RX6 yX6_allMiles yX6_allMiles ∈ Tw := tw_sel (q := (⟨"BentPlainModel", "allMiles", "()I"⟩, 17)) (i := 25) (by decide +kernel)
theorem w_957 : Cond.instanceMethod yX6_allMiles ∈ Tw := tw_of (i := 957) (by decide +kernel) (by decide +kernel)
theorem mlX6_142 : MLv RX6 142 kX6_allMiles 0 := ⟨⟨w_955, w_6, w_958, by decide, by decide, by decide +kernel⟩, w_957, ws_mlX6_142⟩
theorem w_959 : Cond.methodLink RL 72 yX6_on ∈ Tw := tw_of (i := 959) (by decide +kernel) (by decide +kernel)
theorem w_962 : Cond.code yX6_on cX6_on 5 (some .int) ∈ Tw := tw_of (i := 962) (by decide +kernel) (by decide +kernel)
theorem w_961 : Cond.selects RX6 yX6_on yX6_on ∈ Tw := tw_of (i := 961) (by decide +kernel) (by decide +kernel)
theorem w_960 : Cond.instanceMethod yX6_on ∈ Tw := tw_of (i := 960) (by decide +kernel) (by decide +kernel)
theorem mlL_72 : MLv RL 72 kX6_on 3 := ⟨⟨w_959, w_6, w_962, by decide, by decide, by decide +kernel⟩, w_960, w_961⟩
theorem w_963 : Cond.methodLink RX6 146 yX6_laysAside ∈ Tw := tw_of (i := 963) (by decide +kernel) (by decide +kernel)
theorem w_966 : Cond.code yX6_laysAside cX6_laysAside 2 none ∈ Tw := tw_of (i := 966) (by decide +kernel) (by decide +kernel)
theorem ws_mlX6_146 : Cond.selects RX6 yX6_laysAside yX6_laysAside ∈ Tw := tw_sel (q := (⟨"BentPlainModel", "laysAside", "()V"⟩, 17)) (i := 26) (by decide +kernel)
theorem w_965 : Cond.instanceMethod yX6_laysAside ∈ Tw := tw_of (i := 965) (by decide +kernel) (by decide +kernel)
theorem mlX6_146 : MLv RX6 146 kX6_laysAside 0 := ⟨⟨w_963, w_6, w_966, by decide, by decide, by decide +kernel⟩, w_965, ws_mlX6_146⟩
theorem w_967 : Cond.methodLink RX6 149 yX6_takesBack ∈ Tw := tw_of (i := 967) (by decide +kernel) (by decide +kernel)
theorem w_970 : Cond.code yX6_takesBack cX6_takesBack 3 (some .int) ∈ Tw := tw_of (i := 970) (by decide +kernel) (by decide +kernel)
theorem ws_mlX6_149 : Cond.selects RX6 yX6_takesBack yX6_takesBack ∈ Tw := tw_sel (q := (⟨"BentPlainModel", "takesBack", "(I)I"⟩, 17)) (i := 27) (by decide +kernel)
theorem w_969 : Cond.instanceMethod yX6_takesBack ∈ Tw := tw_of (i := 969) (by decide +kernel) (by decide +kernel)
theorem mlX6_149 : MLv RX6 149 kX6_takesBack 1 := ⟨⟨w_967, w_6, w_970, by decide, by decide, by decide +kernel⟩, w_969, ws_mlX6_149⟩
theorem w_971 : Cond.methodLink RL 76 yX6_when ∈ Tw := tw_of (i := 971) (by decide +kernel) (by decide +kernel)
theorem w_974 : Cond.code yX6_when cX6_when 4 (some .int) ∈ Tw := tw_of (i := 974) (by decide +kernel) (by decide +kernel)
theorem w_973 : Cond.selects RX6 yX6_when yX6_when ∈ Tw := tw_of (i := 973) (by decide +kernel) (by decide +kernel)
theorem w_972 : Cond.instanceMethod yX6_when ∈ Tw := tw_of (i := 972) (by decide +kernel) (by decide +kernel)
theorem mlL_76 : MLv RL 76 kX6_when 2 := ⟨⟨w_971, w_6, w_974, by decide, by decide, by decide +kernel⟩, w_972, w_973⟩
theorem w_975 : Cond.methodLink RX6 152 yX6_orNone ∈ Tw := tw_of (i := 975) (by decide +kernel) (by decide +kernel)
theorem w_978 : Cond.code yX6_orNone cX6_orNone 3 (some .int) ∈ Tw := tw_of (i := 978) (by decide +kernel) (by decide +kernel)
theorem ws_mlX6_152 : Cond.selects RX6 yX6_orNone yX6_orNone ∈ Tw := tw_sel (q := (⟨"BentPlainModel", "orNone", "(II)I"⟩, 17)) (i := 28) (by decide +kernel)
theorem w_977 : Cond.instanceMethod yX6_orNone ∈ Tw := tw_of (i := 977) (by decide +kernel) (by decide +kernel)
theorem mlX6_152 : MLv RX6 152 kX6_orNone 2 := ⟨⟨w_975, w_6, w_978, by decide, by decide, by decide +kernel⟩, w_977, ws_mlX6_152⟩
theorem w_979 : Cond.methodLink RL 80 yX6_back ∈ Tw := tw_of (i := 979) (by decide +kernel) (by decide +kernel)
theorem w_982 : Cond.code yX6_back cX6_back 4 (some .int) ∈ Tw := tw_of (i := 982) (by decide +kernel) (by decide +kernel)
theorem w_981 : Cond.selects RX6 yX6_back yX6_back ∈ Tw := tw_of (i := 981) (by decide +kernel) (by decide +kernel)
theorem w_980 : Cond.instanceMethod yX6_back ∈ Tw := tw_of (i := 980) (by decide +kernel) (by decide +kernel)
theorem mlL_80 : MLv RL 80 kX6_back 1 := ⟨⟨w_979, w_6, w_982, by decide, by decide, by decide +kernel⟩, w_980, w_981⟩
theorem w_983 : Cond.methodLink RL 84 yX6_meet ∈ Tw := tw_of (i := 983) (by decide +kernel) (by decide +kernel)
theorem w_986 : Cond.code yX6_meet cX6_meet 4 (some .int) ∈ Tw := tw_of (i := 986) (by decide +kernel) (by decide +kernel)
theorem w_985 : Cond.selects RX6 yX6_meet yX6_meet ∈ Tw := tw_of (i := 985) (by decide +kernel) (by decide +kernel)
theorem w_984 : Cond.instanceMethod yX6_meet ∈ Tw := tw_of (i := 984) (by decide +kernel) (by decide +kernel)
theorem mlL_84 : MLv RL 84 kX6_meet 2 := ⟨⟨w_983, w_6, w_986, by decide, by decide, by decide +kernel⟩, w_984, w_985⟩
theorem w_987 : Cond.methodLink RL 88 yX6_spares ∈ Tw := tw_of (i := 987) (by decide +kernel) (by decide +kernel)
theorem w_990 : Cond.code yX6_spares cX6_spares 4 (some .int) ∈ Tw := tw_of (i := 990) (by decide +kernel) (by decide +kernel)
theorem w_989 : Cond.selects RX6 yX6_spares yX6_spares ∈ Tw := tw_of (i := 989) (by decide +kernel) (by decide +kernel)
theorem w_988 : Cond.instanceMethod yX6_spares ∈ Tw := tw_of (i := 988) (by decide +kernel) (by decide +kernel)
theorem mlL_88 : MLv RL 88 kX6_spares 1 := ⟨⟨w_987, w_6, w_990, by decide, by decide, by decide +kernel⟩, w_988, w_989⟩
theorem w_991 : Cond.methodLink RL 92 yX6_closes ∈ Tw := tw_of (i := 991) (by decide +kernel) (by decide +kernel)
theorem w_994 : Cond.code yX6_closes cX6_closes 6 (some .int) ∈ Tw := tw_of (i := 994) (by decide +kernel) (by decide +kernel)
theorem w_993 : Cond.selects RX6 yX6_closes yX6_closes ∈ Tw := tw_of (i := 993) (by decide +kernel) (by decide +kernel)
theorem w_992 : Cond.instanceMethod yX6_closes ∈ Tw := tw_of (i := 992) (by decide +kernel) (by decide +kernel)
theorem mlL_92 : MLv RL 92 kX6_closes 2 := ⟨⟨w_991, w_6, w_994, by decide, by decide, by decide +kernel⟩, w_992, w_993⟩
theorem w_995 : Cond.methodLink RL 96 yX6_bumps ∈ Tw := tw_of (i := 995) (by decide +kernel) (by decide +kernel)
theorem w_998 : Cond.code yX6_bumps cX6_bumps 5 (some .int) ∈ Tw := tw_of (i := 998) (by decide +kernel) (by decide +kernel)
theorem w_997 : Cond.selects RX6 yX6_bumps yX6_bumps ∈ Tw := tw_of (i := 997) (by decide +kernel) (by decide +kernel)
theorem w_996 : Cond.instanceMethod yX6_bumps ∈ Tw := tw_of (i := 996) (by decide +kernel) (by decide +kernel)
theorem mlL_96 : MLv RL 96 kX6_bumps 2 := ⟨⟨w_995, w_6, w_998, by decide, by decide, by decide +kernel⟩, w_996, w_997⟩
theorem w_999 : Cond.methodLink RL 100 yX6_square ∈ Tw := tw_of (i := 999) (by decide +kernel) (by decide +kernel)
theorem w_1002 : Cond.code yX6_square cX6_square 8 (some .int) ∈ Tw := tw_of (i := 1002) (by decide +kernel) (by decide +kernel)
theorem w_1001 : Cond.selects RX6 yX6_square yX6_square ∈ Tw := tw_of (i := 1001) (by decide +kernel) (by decide +kernel)
theorem w_1000 : Cond.instanceMethod yX6_square ∈ Tw := tw_of (i := 1000) (by decide +kernel) (by decide +kernel)
theorem mlL_100 : MLv RL 100 kX6_square 3 := ⟨⟨w_999, w_6, w_1002, by decide, by decide, by decide +kernel⟩, w_1000, w_1001⟩
theorem w_1003 : Cond.methodLink RL 104 yX6_dine ∈ Tw := tw_of (i := 1003) (by decide +kernel) (by decide +kernel)
theorem w_1006 : Cond.code yX6_dine cX6_dine 8 (some .int) ∈ Tw := tw_of (i := 1006) (by decide +kernel) (by decide +kernel)
theorem w_1005 : Cond.selects RX6 yX6_dine yX6_dine ∈ Tw := tw_of (i := 1005) (by decide +kernel) (by decide +kernel)
theorem w_1004 : Cond.instanceMethod yX6_dine ∈ Tw := tw_of (i := 1004) (by decide +kernel) (by decide +kernel)
theorem mlL_104 : MLv RL 104 kX6_dine 4 := ⟨⟨w_1003, w_6, w_1006, by decide, by decide, by decide +kernel⟩, w_1004, w_1005⟩
theorem w_1007 : Cond.methodLink RL 108 yX6_sees ∈ Tw := tw_of (i := 1007) (by decide +kernel) (by decide +kernel)
theorem w_1010 : Cond.code yX6_sees cX6_sees 3 (some .int) ∈ Tw := tw_of (i := 1010) (by decide +kernel) (by decide +kernel)
theorem w_1009 : Cond.selects RX6 yX6_sees yX6_sees ∈ Tw := tw_of (i := 1009) (by decide +kernel) (by decide +kernel)
theorem w_1008 : Cond.instanceMethod yX6_sees ∈ Tw := tw_of (i := 1008) (by decide +kernel) (by decide +kernel)
theorem mlL_108 : MLv RL 108 kX6_sees 2 := ⟨⟨w_1007, w_6, w_1010, by decide, by decide, by decide +kernel⟩, w_1008, w_1009⟩
theorem w_1011 : Cond.methodLink RX6 155 yX6_seen ∈ Tw := tw_of (i := 1011) (by decide +kernel) (by decide +kernel)
theorem w_1014 : Cond.code yX6_seen cX6_seen 4 (some .int) ∈ Tw := tw_of (i := 1014) (by decide +kernel) (by decide +kernel)
theorem ws_mlX6_155 : Cond.selects RX6 yX6_seen yX6_seen ∈ Tw := tw_sel (q := (⟨"BentPlainModel", "seen", "(I)I"⟩, 17)) (i := 29) (by decide +kernel)
theorem w_1013 : Cond.instanceMethod yX6_seen ∈ Tw := tw_of (i := 1013) (by decide +kernel) (by decide +kernel)
theorem mlX6_155 : MLv RX6 155 kX6_seen 1 := ⟨⟨w_1011, w_6, w_1014, by decide, by decide, by decide +kernel⟩, w_1013, ws_mlX6_155⟩
theorem w_1015 : Cond.methodLink RL 112 yX6_twice ∈ Tw := tw_of (i := 1015) (by decide +kernel) (by decide +kernel)
theorem w_1018 : Cond.code yX6_twice cX6_twice 6 (some .int) ∈ Tw := tw_of (i := 1018) (by decide +kernel) (by decide +kernel)
theorem w_1017 : Cond.selects RX6 yX6_twice yX6_twice ∈ Tw := tw_of (i := 1017) (by decide +kernel) (by decide +kernel)
theorem w_1016 : Cond.instanceMethod yX6_twice ∈ Tw := tw_of (i := 1016) (by decide +kernel) (by decide +kernel)
theorem mlL_112 : MLv RL 112 kX6_twice 1 := ⟨⟨w_1015, w_6, w_1018, by decide, by decide, by decide +kernel⟩, w_1016, w_1017⟩
theorem w_1019 : Cond.methodLink RX6 158 yX6_ones ∈ Tw := tw_of (i := 1019) (by decide +kernel) (by decide +kernel)
theorem w_1021 : Cond.code yX6_ones cX6_ones 3 (some .int) ∈ Tw := tw_of (i := 1021) (by decide +kernel) (by decide +kernel)
theorem w_1020 : Cond.static yX6_ones ∈ Tw := tw_of (i := 1020) (by decide +kernel) (by decide +kernel)
theorem mlX6_158 : MLs RX6 158 kX6_ones 1 := ⟨⟨w_1019, w_6, w_1021, by decide, by decide, by decide +kernel⟩, w_1020⟩
theorem w_1022 : Cond.methodLink RL 116 yX6_about ∈ Tw := tw_of (i := 1022) (by decide +kernel) (by decide +kernel)
theorem w_1025 : Cond.code yX6_about cX6_about 4 (some .int) ∈ Tw := tw_of (i := 1025) (by decide +kernel) (by decide +kernel)
theorem w_1024 : Cond.selects RX6 yX6_about yX6_about ∈ Tw := tw_of (i := 1024) (by decide +kernel) (by decide +kernel)
theorem w_1023 : Cond.instanceMethod yX6_about ∈ Tw := tw_of (i := 1023) (by decide +kernel) (by decide +kernel)
theorem mlL_116 : MLv RL 116 kX6_about 2 := ⟨⟨w_1022, w_6, w_1025, by decide, by decide, by decide +kernel⟩, w_1023, w_1024⟩
theorem w_1026 : Cond.methodLink RX6 164 yX6_aboutOf ∈ Tw := tw_of (i := 1026) (by decide +kernel) (by decide +kernel)
theorem w_1029 : Cond.code yX6_aboutOf cX6_aboutOf 4 (some .int) ∈ Tw := tw_of (i := 1029) (by decide +kernel) (by decide +kernel)
theorem ws_mlX6_164 : Cond.selects RX6 yX6_aboutOf yX6_aboutOf ∈ Tw := tw_sel (q := (⟨"BentPlainModel", "aboutOf", "(I)I"⟩, 17)) (i := 30) (by decide +kernel)
theorem w_1028 : Cond.instanceMethod yX6_aboutOf ∈ Tw := tw_of (i := 1028) (by decide +kernel) (by decide +kernel)
theorem mlX6_164 : MLv RX6 164 kX6_aboutOf 1 := ⟨⟨w_1026, w_6, w_1029, by decide, by decide, by decide +kernel⟩, w_1028, ws_mlX6_164⟩
theorem w_1030 : Cond.methodLink RX6 161 yX6_beside ∈ Tw := tw_of (i := 1030) (by decide +kernel) (by decide +kernel)
theorem w_1033 : Cond.code yX6_beside cX6_beside 3 (some .int) ∈ Tw := tw_of (i := 1033) (by decide +kernel) (by decide +kernel)
theorem ws_mlX6_161 : Cond.selects RX6 yX6_beside yX6_beside ∈ Tw := tw_sel (q := (⟨"BentPlainModel", "beside", "(I)I"⟩, 17)) (i := 31) (by decide +kernel)
theorem w_1032 : Cond.instanceMethod yX6_beside ∈ Tw := tw_of (i := 1032) (by decide +kernel) (by decide +kernel)
theorem mlX6_161 : MLv RX6 161 kX6_beside 1 := ⟨⟨w_1030, w_6, w_1033, by decide, by decide, by decide +kernel⟩, w_1032, ws_mlX6_161⟩
theorem w_1034 : Cond.methodLink RL 121 yX6_corners ∈ Tw := tw_of (i := 1034) (by decide +kernel) (by decide +kernel)
theorem w_1037 : Cond.code yX6_corners cX6_corners 3 (some .int) ∈ Tw := tw_of (i := 1037) (by decide +kernel) (by decide +kernel)
theorem w_1036 : Cond.selects RX6 yX6_corners yX6_corners ∈ Tw := tw_of (i := 1036) (by decide +kernel) (by decide +kernel)
theorem w_1035 : Cond.instanceMethod yX6_corners ∈ Tw := tw_of (i := 1035) (by decide +kernel) (by decide +kernel)
theorem mlL_121 : MLv RL 121 kX6_corners 0 := ⟨⟨w_1034, w_6, w_1037, by decide, by decide, by decide +kernel⟩, w_1035, w_1036⟩
theorem w_1038 : Cond.methodLink RX6 167 yX6_isFirst ∈ Tw := tw_of (i := 1038) (by decide +kernel) (by decide +kernel)
theorem w_1041 : Cond.code yX6_isFirst cX6_isFirst 4 (some .boolean) ∈ Tw := tw_of (i := 1041) (by decide +kernel) (by decide +kernel)
theorem ws_mlX6_167 : Cond.selects RX6 yX6_isFirst yX6_isFirst ∈ Tw := tw_sel (q := (⟨"BentPlainModel", "isFirst", "(I)Z"⟩, 17)) (i := 32) (by decide +kernel)
theorem w_1040 : Cond.instanceMethod yX6_isFirst ∈ Tw := tw_of (i := 1040) (by decide +kernel) (by decide +kernel)
theorem mlX6_167 : MLv RX6 167 kX6_isFirst 1 := ⟨⟨w_1038, w_6, w_1041, by decide, by decide, by decide +kernel⟩, w_1040, ws_mlX6_167⟩
theorem w_1042 : Cond.methodLink RL 125 yX6_excess ∈ Tw := tw_of (i := 1042) (by decide +kernel) (by decide +kernel)
theorem w_1045 : Cond.code yX6_excess cX6_excess 3 (some .int) ∈ Tw := tw_of (i := 1045) (by decide +kernel) (by decide +kernel)
theorem w_1044 : Cond.selects RX6 yX6_excess yX6_excess ∈ Tw := tw_of (i := 1044) (by decide +kernel) (by decide +kernel)
theorem w_1043 : Cond.instanceMethod yX6_excess ∈ Tw := tw_of (i := 1043) (by decide +kernel) (by decide +kernel)
theorem mlL_125 : MLv RL 125 kX6_excess 0 := ⟨⟨w_1042, w_6, w_1045, by decide, by decide, by decide +kernel⟩, w_1043, w_1044⟩
theorem w_1046 : Cond.methodLink RL 129 yX6_bent ∈ Tw := tw_of (i := 1046) (by decide +kernel) (by decide +kernel)
theorem w_1049 : Cond.code yX6_bent cX6_bent 3 (some .int) ∈ Tw := tw_of (i := 1049) (by decide +kernel) (by decide +kernel)
theorem w_1048 : Cond.selects RX6 yX6_bent yX6_bent ∈ Tw := tw_of (i := 1048) (by decide +kernel) (by decide +kernel)
theorem w_1047 : Cond.instanceMethod yX6_bent ∈ Tw := tw_of (i := 1047) (by decide +kernel) (by decide +kernel)
theorem mlL_129 : MLv RL 129 kX6_bent 0 := ⟨⟨w_1046, w_6, w_1049, by decide, by decide, by decide +kernel⟩, w_1047, w_1048⟩
theorem w_1050 : Cond.methodLink RL 133 yX6_parts ∈ Tw := tw_of (i := 1050) (by decide +kernel) (by decide +kernel)
theorem w_1053 : Cond.code yX6_parts cX6_parts 6 (some .int) ∈ Tw := tw_of (i := 1053) (by decide +kernel) (by decide +kernel)
theorem w_1052 : Cond.selects RX6 yX6_parts yX6_parts ∈ Tw := tw_of (i := 1052) (by decide +kernel) (by decide +kernel)
theorem w_1051 : Cond.instanceMethod yX6_parts ∈ Tw := tw_of (i := 1051) (by decide +kernel) (by decide +kernel)
theorem mlL_133 : MLv RL 133 kX6_parts 0 := ⟨⟨w_1050, w_6, w_1053, by decide, by decide, by decide +kernel⟩, w_1051, w_1052⟩
theorem w_1054 : Cond.methodLink RX6 170 yX6_spread ∈ Tw := tw_of (i := 1054) (by decide +kernel) (by decide +kernel)
theorem w_1057 : Cond.code yX6_spread cX6_spread 4 (some .int) ∈ Tw := tw_of (i := 1057) (by decide +kernel) (by decide +kernel)
theorem ws_mlX6_170 : Cond.selects RX6 yX6_spread yX6_spread ∈ Tw := tw_sel (q := (⟨"BentPlainModel", "spread", "(I)I"⟩, 17)) (i := 33) (by decide +kernel)
theorem w_1056 : Cond.instanceMethod yX6_spread ∈ Tw := tw_of (i := 1056) (by decide +kernel) (by decide +kernel)
theorem mlX6_170 : MLv RX6 170 kX6_spread 1 := ⟨⟨w_1054, w_6, w_1057, by decide, by decide, by decide +kernel⟩, w_1056, ws_mlX6_170⟩
theorem w_1058 : Cond.methodLink RL 137 yX6_far ∈ Tw := tw_of (i := 1058) (by decide +kernel) (by decide +kernel)
theorem w_1061 : Cond.code yX6_far cX6_far 3 (some .int) ∈ Tw := tw_of (i := 1061) (by decide +kernel) (by decide +kernel)
theorem w_1060 : Cond.selects RX6 yX6_far yX6_far ∈ Tw := tw_of (i := 1060) (by decide +kernel) (by decide +kernel)
theorem w_1059 : Cond.instanceMethod yX6_far ∈ Tw := tw_of (i := 1059) (by decide +kernel) (by decide +kernel)
theorem mlL_137 : MLv RL 137 kX6_far 2 := ⟨⟨w_1058, w_6, w_1061, by decide, by decide, by decide +kernel⟩, w_1059, w_1060⟩
theorem w_1062 : Cond.methodLink RX6 174 yX6_farOf ∈ Tw := tw_of (i := 1062) (by decide +kernel) (by decide +kernel)
theorem w_1065 : Cond.code yX6_farOf cX6_farOf 5 (some .int) ∈ Tw := tw_of (i := 1065) (by decide +kernel) (by decide +kernel)
theorem ws_mlX6_174 : Cond.selects RX6 yX6_farOf yX6_farOf ∈ Tw := tw_sel (q := (⟨"BentPlainModel", "farOf", "(II)I"⟩, 17)) (i := 34) (by decide +kernel)
theorem w_1064 : Cond.instanceMethod yX6_farOf ∈ Tw := tw_of (i := 1064) (by decide +kernel) (by decide +kernel)
theorem mlX6_174 : MLv RX6 174 kX6_farOf 2 := ⟨⟨w_1062, w_6, w_1065, by decide, by decide, by decide +kernel⟩, w_1064, ws_mlX6_174⟩
theorem w_1068 : Cond.methodLink RL 141 yX6_smooth ∈ Tw := tw_of (i := 1068) (by decide +kernel) (by decide +kernel)
theorem w_1071 : Cond.code yX6_smooth cX6_smooth 7 (some .int) ∈ Tw := tw_of (i := 1071) (by decide +kernel) (by decide +kernel)
theorem w_1070 : Cond.selects RX6 yX6_smooth yX6_smooth ∈ Tw := tw_of (i := 1070) (by decide +kernel) (by decide +kernel)
theorem w_1069 : Cond.instanceMethod yX6_smooth ∈ Tw := tw_of (i := 1069) (by decide +kernel) (by decide +kernel)
theorem mlL_141 : MLv RL 141 kX6_smooth 2 := ⟨⟨w_1068, w_6, w_1071, by decide, by decide, by decide +kernel⟩, w_1069, w_1070⟩
theorem w_1072 : Cond.methodLink RL 145 yX6_turns ∈ Tw := tw_of (i := 1072) (by decide +kernel) (by decide +kernel)
theorem w_1075 : Cond.code yX6_turns cX6_turns 10 (some .int) ∈ Tw := tw_of (i := 1075) (by decide +kernel) (by decide +kernel)
theorem w_1074 : Cond.selects RX6 yX6_turns yX6_turns ∈ Tw := tw_of (i := 1074) (by decide +kernel) (by decide +kernel)
theorem w_1073 : Cond.instanceMethod yX6_turns ∈ Tw := tw_of (i := 1073) (by decide +kernel) (by decide +kernel)
theorem mlL_145 : MLv RL 145 kX6_turns 3 := ⟨⟨w_1072, w_6, w_1075, by decide, by decide, by decide +kernel⟩, w_1073, w_1074⟩
theorem w_1076 : Cond.methodLink RL 149 yX6_within ∈ Tw := tw_of (i := 1076) (by decide +kernel) (by decide +kernel)
theorem w_1079 : Cond.code yX6_within cX6_within 5 (some .int) ∈ Tw := tw_of (i := 1079) (by decide +kernel) (by decide +kernel)
theorem w_1078 : Cond.selects RX6 yX6_within yX6_within ∈ Tw := tw_of (i := 1078) (by decide +kernel) (by decide +kernel)
theorem w_1077 : Cond.instanceMethod yX6_within ∈ Tw := tw_of (i := 1077) (by decide +kernel) (by decide +kernel)
theorem mlL_149 : MLv RL 149 kX6_within 2 := ⟨⟨w_1076, w_6, w_1079, by decide, by decide, by decide +kernel⟩, w_1077, w_1078⟩
theorem w_1081 : Cond.methodLink RL 153 yX6_mends ∈ Tw := tw_of (i := 1081) (by decide +kernel) (by decide +kernel)
theorem w_1084 : Cond.code yX6_mends cX6_mends 8 (some .int) ∈ Tw := tw_of (i := 1084) (by decide +kernel) (by decide +kernel)
theorem w_1083 : Cond.selects RX6 yX6_mends yX6_mends ∈ Tw := tw_of (i := 1083) (by decide +kernel) (by decide +kernel)
theorem w_1082 : Cond.instanceMethod yX6_mends ∈ Tw := tw_of (i := 1082) (by decide +kernel) (by decide +kernel)
theorem mlL_153 : MLv RL 153 kX6_mends 2 := ⟨⟨w_1081, w_6, w_1084, by decide, by decide, by decide +kernel⟩, w_1082, w_1083⟩
theorem w_1085 : Cond.methodLink RL 157 yX6_feed ∈ Tw := tw_of (i := 1085) (by decide +kernel) (by decide +kernel)
theorem w_1088 : Cond.code yX6_feed cX6_feed 4 (some .int) ∈ Tw := tw_of (i := 1088) (by decide +kernel) (by decide +kernel)
theorem w_1087 : Cond.selects RX6 yX6_feed yX6_feed ∈ Tw := tw_of (i := 1087) (by decide +kernel) (by decide +kernel)
theorem w_1086 : Cond.instanceMethod yX6_feed ∈ Tw := tw_of (i := 1086) (by decide +kernel) (by decide +kernel)
theorem mlL_157 : MLv RL 157 kX6_feed 2 := ⟨⟨w_1085, w_6, w_1088, by decide, by decide, by decide +kernel⟩, w_1086, w_1087⟩
theorem w_1090 : Cond.methodLink RL 161 yX6_wipe ∈ Tw := tw_of (i := 1090) (by decide +kernel) (by decide +kernel)
theorem w_1093 : Cond.code yX6_wipe cX6_wipe 2 (some .int) ∈ Tw := tw_of (i := 1093) (by decide +kernel) (by decide +kernel)
theorem w_1092 : Cond.selects RX6 yX6_wipe yX6_wipe ∈ Tw := tw_of (i := 1092) (by decide +kernel) (by decide +kernel)
theorem w_1091 : Cond.instanceMethod yX6_wipe ∈ Tw := tw_of (i := 1091) (by decide +kernel) (by decide +kernel)
theorem mlL_161 : MLv RL 161 kX6_wipe 0 := ⟨⟨w_1090, w_6, w_1093, by decide, by decide, by decide +kernel⟩, w_1091, w_1092⟩
theorem w_1094 : Cond.methodLink RL 165 yX6_plain ∈ Tw := tw_of (i := 1094) (by decide +kernel) (by decide +kernel)
theorem w_1097 : Cond.code yX6_plain cX6_plain 2 (some .int) ∈ Tw := tw_of (i := 1097) (by decide +kernel) (by decide +kernel)
theorem w_1096 : Cond.selects RX6 yX6_plain yX6_plain ∈ Tw := tw_of (i := 1096) (by decide +kernel) (by decide +kernel)
theorem w_1095 : Cond.instanceMethod yX6_plain ∈ Tw := tw_of (i := 1095) (by decide +kernel) (by decide +kernel)
theorem mlL_165 : MLv RL 165 kX6_plain 0 := ⟨⟨w_1094, w_6, w_1097, by decide, by decide, by decide +kernel⟩, w_1095, w_1096⟩
theorem w_1098 : Cond.methodLink RX6 289 yX6_saves ∈ Tw := tw_of (i := 1098) (by decide +kernel) (by decide +kernel)
theorem w_1101 : Cond.code yX6_saves cX6_saves 2 none ∈ Tw := tw_of (i := 1101) (by decide +kernel) (by decide +kernel)
theorem ws_mlX6_289 : Cond.selects RX6 yX6_saves yX6_saves ∈ Tw := tw_sel (q := (⟨"BentPlainModel", "saves", "()V"⟩, 17)) (i := 35) (by decide +kernel)
theorem w_1100 : Cond.instanceMethod yX6_saves ∈ Tw := tw_of (i := 1100) (by decide +kernel) (by decide +kernel)
theorem mlX6_289 : MLv RX6 289 kX6_saves 0 := ⟨⟨w_1098, w_6, w_1101, by decide, by decide, by decide +kernel⟩, w_1100, ws_mlX6_289⟩
theorem w_1102 : Cond.methodLink RX6 213 yX6_token ∈ Tw := tw_of (i := 1102) (by decide +kernel) (by decide +kernel)
theorem w_1105 : Cond.code yX6_token cX6_token 3 none ∈ Tw := tw_of (i := 1105) (by decide +kernel) (by decide +kernel)
theorem ws_mlX6_213 : Cond.selects RX6 yX6_token yX6_token ∈ Tw := tw_sel (q := (⟨"BentPlainModel", "token", "()V"⟩, 17)) (i := 36) (by decide +kernel)
theorem w_1104 : Cond.instanceMethod yX6_token ∈ Tw := tw_of (i := 1104) (by decide +kernel) (by decide +kernel)
theorem mlX6_213 : MLv RX6 213 kX6_token 0 := ⟨⟨w_1102, w_6, w_1105, by decide, by decide, by decide +kernel⟩, w_1104, ws_mlX6_213⟩
theorem w_1106 : Cond.methodLink RX6 200 yX6_byteAt ∈ Tw := tw_of (i := 1106) (by decide +kernel) (by decide +kernel)
theorem w_1109 : Cond.code yX6_byteAt cX6_byteAt 2 (some .int) ∈ Tw := tw_of (i := 1109) (by decide +kernel) (by decide +kernel)
theorem ws_mlX6_200 : Cond.selects RX6 yX6_byteAt yX6_byteAt ∈ Tw := tw_sel (q := (⟨"BentPlainModel", "byteAt", "(I)I"⟩, 17)) (i := 37) (by decide +kernel)
theorem w_1108 : Cond.instanceMethod yX6_byteAt ∈ Tw := tw_of (i := 1108) (by decide +kernel) (by decide +kernel)
theorem mlX6_200 : MLv RX6 200 kX6_byteAt 1 := ⟨⟨w_1106, w_6, w_1109, by decide, by decide, by decide +kernel⟩, w_1108, ws_mlX6_200⟩
theorem w_1110 : Cond.methodLink RX6 203 yX6_isLetter ∈ Tw := tw_of (i := 1110) (by decide +kernel) (by decide +kernel)
theorem w_1112 : Cond.code yX6_isLetter cX6_isLetter 1 (some .boolean) ∈ Tw := tw_of (i := 1112) (by decide +kernel) (by decide +kernel)
theorem w_1111 : Cond.static yX6_isLetter ∈ Tw := tw_of (i := 1111) (by decide +kernel) (by decide +kernel)
theorem mlX6_203 : MLs RX6 203 kX6_isLetter 1 := ⟨⟨w_1110, w_6, w_1112, by decide, by decide, by decide +kernel⟩, w_1111⟩
theorem w_1115 : Cond.methodLink RX6 206 yX6_isDigit ∈ Tw := tw_of (i := 1115) (by decide +kernel) (by decide +kernel)
theorem w_1117 : Cond.code yX6_isDigit cX6_isDigit 1 (some .boolean) ∈ Tw := tw_of (i := 1117) (by decide +kernel) (by decide +kernel)
theorem w_1116 : Cond.static yX6_isDigit ∈ Tw := tw_of (i := 1116) (by decide +kernel) (by decide +kernel)
theorem mlX6_206 : MLs RX6 206 kX6_isDigit 1 := ⟨⟨w_1115, w_6, w_1117, by decide, by decide, by decide +kernel⟩, w_1116⟩
theorem w_1120 : Cond.methodLink RX6 292 yX6_item ∈ Tw := tw_of (i := 1120) (by decide +kernel) (by decide +kernel)
theorem w_1123 : Cond.code yX6_item cX6_item 4 none ∈ Tw := tw_of (i := 1123) (by decide +kernel) (by decide +kernel)
theorem ws_mlX6_292 : Cond.selects RX6 yX6_item yX6_item ∈ Tw := tw_sel (q := (⟨"BentPlainModel", "item", "()V"⟩, 17)) (i := 38) (by decide +kernel)
theorem w_1122 : Cond.instanceMethod yX6_item ∈ Tw := tw_of (i := 1122) (by decide +kernel) (by decide +kernel)
theorem mlX6_292 : MLv RX6 292 kX6_item 0 := ⟨⟨w_1120, w_6, w_1123, by decide, by decide, by decide +kernel⟩, w_1122, ws_mlX6_292⟩
theorem w_1124 : Cond.methodLink RX6 268 yX6_kindHere ∈ Tw := tw_of (i := 1124) (by decide +kernel) (by decide +kernel)
theorem w_1127 : Cond.code yX6_kindHere cX6_kindHere 3 (some .int) ∈ Tw := tw_of (i := 1127) (by decide +kernel) (by decide +kernel)
theorem ws_mlX6_268 : Cond.selects RX6 yX6_kindHere yX6_kindHere ∈ Tw := tw_sel (q := (⟨"BentPlainModel", "kindHere", "()I"⟩, 17)) (i := 39) (by decide +kernel)
theorem w_1126 : Cond.instanceMethod yX6_kindHere ∈ Tw := tw_of (i := 1126) (by decide +kernel) (by decide +kernel)
theorem mlX6_268 : MLv RX6 268 kX6_kindHere 0 := ⟨⟨w_1124, w_6, w_1127, by decide, by decide, by decide +kernel⟩, w_1126, ws_mlX6_268⟩
theorem w_1128 : Cond.methodLink RX6 227 yX6_word ∈ Tw := tw_of (i := 1128) (by decide +kernel) (by decide +kernel)
theorem w_1131 : Cond.code yX6_word cX6_word 4 (some .long) ∈ Tw := tw_of (i := 1131) (by decide +kernel) (by decide +kernel)
theorem ws_mlX6_227 : Cond.selects RX6 yX6_word yX6_word ∈ Tw := tw_sel (q := (⟨"BentPlainModel", "word", "()J"⟩, 17)) (i := 40) (by decide +kernel)
theorem w_1130 : Cond.instanceMethod yX6_word ∈ Tw := tw_of (i := 1130) (by decide +kernel) (by decide +kernel)
theorem mlX6_227 : MLv RX6 227 kX6_word 0 := ⟨⟨w_1128, w_6, w_1131, by decide, by decide, by decide +kernel⟩, w_1130, ws_mlX6_227⟩
theorem w_1140 : Cond.methodLink RX6 271 yX6_walkerItem ∈ Tw := tw_of (i := 1140) (by decide +kernel) (by decide +kernel)
theorem w_1143 : Cond.code yX6_walkerItem cX6_walkerItem 5 none ∈ Tw := tw_of (i := 1143) (by decide +kernel) (by decide +kernel)
theorem ws_mlX6_271 : Cond.selects RX6 yX6_walkerItem yX6_walkerItem ∈ Tw := tw_sel (q := (⟨"BentPlainModel", "walkerItem", "(I)V"⟩, 17)) (i := 41) (by decide +kernel)
theorem w_1142 : Cond.instanceMethod yX6_walkerItem ∈ Tw := tw_of (i := 1142) (by decide +kernel) (by decide +kernel)
theorem mlX6_271 : MLv RX6 271 kX6_walkerItem 1 := ⟨⟨w_1140, w_6, w_1143, by decide, by decide, by decide +kernel⟩, w_1142, ws_mlX6_271⟩
theorem w_1144 : Cond.methodLink RX6 223 yX6_wants ∈ Tw := tw_of (i := 1144) (by decide +kernel) (by decide +kernel)
theorem w_1147 : Cond.code yX6_wants cX6_wants 2 none ∈ Tw := tw_of (i := 1147) (by decide +kernel) (by decide +kernel)
theorem ws_mlX6_223 : Cond.selects RX6 yX6_wants yX6_wants ∈ Tw := tw_sel (q := (⟨"BentPlainModel", "wants", "(Z)V"⟩, 17)) (i := 42) (by decide +kernel)
theorem w_1146 : Cond.instanceMethod yX6_wants ∈ Tw := tw_of (i := 1146) (by decide +kernel) (by decide +kernel)
theorem mlX6_223 : MLv RX6 223 kX6_wants 1 := ⟨⟨w_1144, w_6, w_1147, by decide, by decide, by decide +kernel⟩, w_1146, ws_mlX6_223⟩
theorem w_1149 : Cond.methodLink RX6 259 yX6_fieldHere ∈ Tw := tw_of (i := 1149) (by decide +kernel) (by decide +kernel)
theorem w_1152 : Cond.code yX6_fieldHere cX6_fieldHere 1 none ∈ Tw := tw_of (i := 1152) (by decide +kernel) (by decide +kernel)
theorem ws_mlX6_259 : Cond.selects RX6 yX6_fieldHere yX6_fieldHere ∈ Tw := tw_sel (q := (⟨"BentPlainModel", "fieldHere", "()V"⟩, 17)) (i := 43) (by decide +kernel)
theorem w_1151 : Cond.instanceMethod yX6_fieldHere ∈ Tw := tw_of (i := 1151) (by decide +kernel) (by decide +kernel)
theorem mlX6_259 : MLv RX6 259 kX6_fieldHere 0 := ⟨⟨w_1149, w_6, w_1152, by decide, by decide, by decide +kernel⟩, w_1151, ws_mlX6_259⟩
theorem w_1153 : Cond.methodLink RX6 243 yX6_number ∈ Tw := tw_of (i := 1153) (by decide +kernel) (by decide +kernel)
theorem w_1156 : Cond.code yX6_number cX6_number 6 none ∈ Tw := tw_of (i := 1156) (by decide +kernel) (by decide +kernel)
theorem ws_mlX6_243 : Cond.selects RX6 yX6_number yX6_number ∈ Tw := tw_sel (q := (⟨"BentPlainModel", "number", "(II)V"⟩, 17)) (i := 44) (by decide +kernel)
theorem w_1155 : Cond.instanceMethod yX6_number ∈ Tw := tw_of (i := 1155) (by decide +kernel) (by decide +kernel)
theorem mlX6_243 : MLv RX6 243 kX6_number 2 := ⟨⟨w_1153, w_6, w_1156, by decide, by decide, by decide +kernel⟩, w_1155, ws_mlX6_243⟩
theorem w_1157 : Cond.methodLink RX6 254 yX6_sideNamed ∈ Tw := tw_of (i := 1157) (by decide +kernel) (by decide +kernel)
theorem w_1160 : Cond.code yX6_sideNamed cX6_sideNamed 3 (some .int) ∈ Tw := tw_of (i := 1160) (by decide +kernel) (by decide +kernel)
theorem ws_mlX6_254 : Cond.selects RX6 yX6_sideNamed yX6_sideNamed ∈ Tw := tw_sel (q := (⟨"BentPlainModel", "sideNamed", "()I"⟩, 17)) (i := 45) (by decide +kernel)
theorem w_1159 : Cond.instanceMethod yX6_sideNamed ∈ Tw := tw_of (i := 1159) (by decide +kernel) (by decide +kernel)
theorem mlX6_254 : MLv RX6 254 kX6_sideNamed 0 := ⟨⟨w_1157, w_6, w_1160, by decide, by decide, by decide +kernel⟩, w_1159, ws_mlX6_254⟩
theorem w_1166 : Cond.methodLink RX6 276 yX6_fieldItem ∈ Tw := tw_of (i := 1166) (by decide +kernel) (by decide +kernel)
theorem w_1169 : Cond.code yX6_fieldItem cX6_fieldItem 3 none ∈ Tw := tw_of (i := 1169) (by decide +kernel) (by decide +kernel)
theorem ws_mlX6_276 : Cond.selects RX6 yX6_fieldItem yX6_fieldItem ∈ Tw := tw_sel (q := (⟨"BentPlainModel", "fieldItem", "()V"⟩, 17)) (i := 46) (by decide +kernel)
theorem w_1168 : Cond.instanceMethod yX6_fieldItem ∈ Tw := tw_of (i := 1168) (by decide +kernel) (by decide +kernel)
theorem mlX6_276 : MLv RX6 276 kX6_fieldItem 0 := ⟨⟨w_1166, w_6, w_1169, by decide, by decide, by decide +kernel⟩, w_1168, ws_mlX6_276⟩
theorem w_1172 : Cond.methodLink RX6 281 yX6_glueItem ∈ Tw := tw_of (i := 1172) (by decide +kernel) (by decide +kernel)
theorem w_1175 : Cond.code yX6_glueItem cX6_glueItem 3 none ∈ Tw := tw_of (i := 1175) (by decide +kernel) (by decide +kernel)
theorem ws_mlX6_281 : Cond.selects RX6 yX6_glueItem yX6_glueItem ∈ Tw := tw_sel (q := (⟨"BentPlainModel", "glueItem", "()V"⟩, 17)) (i := 47) (by decide +kernel)
theorem w_1174 : Cond.instanceMethod yX6_glueItem ∈ Tw := tw_of (i := 1174) (by decide +kernel) (by decide +kernel)
theorem mlX6_281 : MLv RX6 281 kX6_glueItem 0 := ⟨⟨w_1172, w_6, w_1175, by decide, by decide, by decide +kernel⟩, w_1174, ws_mlX6_281⟩
theorem w_1176 : Cond.methodLink RX6 262 yX6_sideHere ∈ Tw := tw_of (i := 1176) (by decide +kernel) (by decide +kernel)
theorem w_1179 : Cond.code yX6_sideHere cX6_sideHere 6 (some .int) ∈ Tw := tw_of (i := 1179) (by decide +kernel) (by decide +kernel)
theorem ws_mlX6_262 : Cond.selects RX6 yX6_sideHere yX6_sideHere ∈ Tw := tw_sel (q := (⟨"BentPlainModel", "sideHere", "(IZI)I"⟩, 17)) (i := 48) (by decide +kernel)
theorem w_1178 : Cond.instanceMethod yX6_sideHere ∈ Tw := tw_of (i := 1178) (by decide +kernel) (by decide +kernel)
theorem mlX6_262 : MLv RX6 262 kX6_sideHere 3 := ⟨⟨w_1176, w_6, w_1179, by decide, by decide, by decide +kernel⟩, w_1178, ws_mlX6_262⟩
theorem w_1181 : Cond.methodLink RX6 286 yX6_cutItem ∈ Tw := tw_of (i := 1181) (by decide +kernel) (by decide +kernel)
theorem w_1184 : Cond.code yX6_cutItem cX6_cutItem 2 none ∈ Tw := tw_of (i := 1184) (by decide +kernel) (by decide +kernel)
theorem ws_mlX6_286 : Cond.selects RX6 yX6_cutItem yX6_cutItem ∈ Tw := tw_sel (q := (⟨"BentPlainModel", "cutItem", "()V"⟩, 17)) (i := 49) (by decide +kernel)
theorem w_1183 : Cond.instanceMethod yX6_cutItem ∈ Tw := tw_of (i := 1183) (by decide +kernel) (by decide +kernel)
theorem mlX6_286 : MLv RX6 286 kX6_cutItem 0 := ⟨⟨w_1181, w_6, w_1184, by decide, by decide, by decide +kernel⟩, w_1183, ws_mlX6_286⟩
theorem w_1185 : Cond.methodLink RX6 295 yX6_putsBack ∈ Tw := tw_of (i := 1185) (by decide +kernel) (by decide +kernel)
theorem w_1188 : Cond.code yX6_putsBack cX6_putsBack 2 none ∈ Tw := tw_of (i := 1188) (by decide +kernel) (by decide +kernel)
theorem ws_mlX6_295 : Cond.selects RX6 yX6_putsBack yX6_putsBack ∈ Tw := tw_sel (q := (⟨"BentPlainModel", "putsBack", "()V"⟩, 17)) (i := 50) (by decide +kernel)
theorem w_1187 : Cond.instanceMethod yX6_putsBack ∈ Tw := tw_of (i := 1187) (by decide +kernel) (by decide +kernel)
theorem mlX6_295 : MLv RX6 295 kX6_putsBack 0 := ⟨⟨w_1185, w_6, w_1188, by decide, by decide, by decide +kernel⟩, w_1187, ws_mlX6_295⟩
theorem w_1189 : Cond.methodLink RL 169 yX6_sheet ∈ Tw := tw_of (i := 1189) (by decide +kernel) (by decide +kernel)
theorem w_1192 : Cond.code yX6_sheet cX6_sheet 5 (some .int) ∈ Tw := tw_of (i := 1192) (by decide +kernel) (by decide +kernel)
theorem w_1191 : Cond.selects RX6 yX6_sheet yX6_sheet ∈ Tw := tw_of (i := 1191) (by decide +kernel) (by decide +kernel)
theorem w_1190 : Cond.instanceMethod yX6_sheet ∈ Tw := tw_of (i := 1190) (by decide +kernel) (by decide +kernel)
theorem mlL_169 : MLv RL 169 kX6_sheet 3 := ⟨⟨w_1189, w_6, w_1192, by decide, by decide, by decide +kernel⟩, w_1190, w_1191⟩
theorem w_1193 : Cond.methodLink RX6 298 yX6_isOne ∈ Tw := tw_of (i := 1193) (by decide +kernel) (by decide +kernel)
theorem w_1195 : Cond.code yX6_isOne cX6_isOne 1 (some .boolean) ∈ Tw := tw_of (i := 1195) (by decide +kernel) (by decide +kernel)
theorem w_1194 : Cond.static yX6_isOne ∈ Tw := tw_of (i := 1194) (by decide +kernel) (by decide +kernel)
theorem mlX6_298 : MLs RX6 298 kX6_isOne 1 := ⟨⟨w_1193, w_6, w_1195, by decide, by decide, by decide +kernel⟩, w_1194⟩
theorem w_1197 : Cond.methodLink RL 176 yX6_write ∈ Tw := tw_of (i := 1197) (by decide +kernel) (by decide +kernel)
theorem w_1200 : Cond.code yX6_write cX6_write 8 (some .long) ∈ Tw := tw_of (i := 1200) (by decide +kernel) (by decide +kernel)
theorem w_1199 : Cond.selects RX6 yX6_write yX6_write ∈ Tw := tw_of (i := 1199) (by decide +kernel) (by decide +kernel)
theorem w_1198 : Cond.instanceMethod yX6_write ∈ Tw := tw_of (i := 1198) (by decide +kernel) (by decide +kernel)
theorem mlL_176 : MLv RL 176 kX6_write 3 := ⟨⟨w_1197, w_6, w_1200, by decide, by decide, by decide +kernel⟩, w_1198, w_1199⟩
theorem w_1201 : Cond.methodLink RX6 303 yX6_wrong ∈ Tw := tw_of (i := 1201) (by decide +kernel) (by decide +kernel)
theorem w_1204 : Cond.code yX6_wrong cX6_wrong 2 (some .int) ∈ Tw := tw_of (i := 1204) (by decide +kernel) (by decide +kernel)
theorem ws_mlX6_303 : Cond.selects RX6 yX6_wrong yX6_wrong ∈ Tw := tw_sel (q := (⟨"BentPlainModel", "wrong", "(I)I"⟩, 17)) (i := 51) (by decide +kernel)
theorem w_1203 : Cond.instanceMethod yX6_wrong ∈ Tw := tw_of (i := 1203) (by decide +kernel) (by decide +kernel)
theorem mlX6_303 : MLv RX6 303 kX6_wrong 1 := ⟨⟨w_1201, w_6, w_1204, by decide, by decide, by decide +kernel⟩, w_1203, ws_mlX6_303⟩
theorem w_1206 : Cond.methodLink RX6 306 yX6_narrowed ∈ Tw := tw_of (i := 1206) (by decide +kernel) (by decide +kernel)
theorem w_1208 : Cond.code yX6_narrowed cX6_narrowed 3 (some .long) ∈ Tw := tw_of (i := 1208) (by decide +kernel) (by decide +kernel)
theorem w_1207 : Cond.static yX6_narrowed ∈ Tw := tw_of (i := 1207) (by decide +kernel) (by decide +kernel)
theorem mlX6_306 : MLs RX6 306 kX6_narrowed 2 := ⟨⟨w_1206, w_6, w_1208, by decide, by decide, by decide +kernel⟩, w_1207⟩
theorem w_1209 : Cond.methodLink RL 181 yX6_copy ∈ Tw := tw_of (i := 1209) (by decide +kernel) (by decide +kernel)
theorem w_1212 : Cond.code yX6_copy cX6_copy 7 (some .int) ∈ Tw := tw_of (i := 1212) (by decide +kernel) (by decide +kernel)
theorem w_1211 : Cond.selects RX6 yX6_copy yX6_copy ∈ Tw := tw_of (i := 1211) (by decide +kernel) (by decide +kernel)
theorem w_1210 : Cond.instanceMethod yX6_copy ∈ Tw := tw_of (i := 1210) (by decide +kernel) (by decide +kernel)
theorem mlL_181 : MLv RL 181 kX6_copy 5 := ⟨⟨w_1209, w_6, w_1212, by decide, by decide, by decide +kernel⟩, w_1210, w_1211⟩
theorem w_1213 : Cond.methodLink RL 185 yX6_lays ∈ Tw := tw_of (i := 1213) (by decide +kernel) (by decide +kernel)
theorem w_1216 : Cond.code yX6_lays cX6_lays 7 (some .int) ∈ Tw := tw_of (i := 1216) (by decide +kernel) (by decide +kernel)
theorem w_1215 : Cond.selects RX6 yX6_lays yX6_lays ∈ Tw := tw_of (i := 1215) (by decide +kernel) (by decide +kernel)
theorem w_1214 : Cond.instanceMethod yX6_lays ∈ Tw := tw_of (i := 1214) (by decide +kernel) (by decide +kernel)
theorem mlL_185 : MLv RL 185 kX6_lays 1 := ⟨⟨w_1213, w_6, w_1216, by decide, by decide, by decide +kernel⟩, w_1214, w_1215⟩
theorem w_1217 : Cond.methodLink RL 189 yX6_book ∈ Tw := tw_of (i := 1217) (by decide +kernel) (by decide +kernel)
theorem w_1220 : Cond.code yX6_book cX6_book 5 (some .int) ∈ Tw := tw_of (i := 1220) (by decide +kernel) (by decide +kernel)
theorem w_1219 : Cond.selects RX6 yX6_book yX6_book ∈ Tw := tw_of (i := 1219) (by decide +kernel) (by decide +kernel)
theorem w_1218 : Cond.instanceMethod yX6_book ∈ Tw := tw_of (i := 1218) (by decide +kernel) (by decide +kernel)
theorem mlL_189 : MLv RL 189 kX6_book 2 := ⟨⟨w_1217, w_6, w_1220, by decide, by decide, by decide +kernel⟩, w_1218, w_1219⟩
theorem w_1221 : Cond.methodLink RX6 310 yX6_wrongBook ∈ Tw := tw_of (i := 1221) (by decide +kernel) (by decide +kernel)
theorem w_1224 : Cond.code yX6_wrongBook cX6_wrongBook 4 (some .int) ∈ Tw := tw_of (i := 1224) (by decide +kernel) (by decide +kernel)
theorem ws_mlX6_310 : Cond.selects RX6 yX6_wrongBook yX6_wrongBook ∈ Tw := tw_sel (q := (⟨"BentPlainModel", "wrongBook", "(II)I"⟩, 17)) (i := 52) (by decide +kernel)
theorem w_1223 : Cond.instanceMethod yX6_wrongBook ∈ Tw := tw_of (i := 1223) (by decide +kernel) (by decide +kernel)
theorem mlX6_310 : MLv RX6 310 kX6_wrongBook 2 := ⟨⟨w_1221, w_6, w_1224, by decide, by decide, by decide +kernel⟩, w_1223, ws_mlX6_310⟩
theorem w_1225 : Cond.methodLink RL 193 yX6_read ∈ Tw := tw_of (i := 1225) (by decide +kernel) (by decide +kernel)
theorem w_1228 : Cond.code yX6_read cX6_read 6 (some .int) ∈ Tw := tw_of (i := 1228) (by decide +kernel) (by decide +kernel)
theorem w_1227 : Cond.selects RX6 yX6_read yX6_read ∈ Tw := tw_of (i := 1227) (by decide +kernel) (by decide +kernel)
theorem w_1226 : Cond.instanceMethod yX6_read ∈ Tw := tw_of (i := 1226) (by decide +kernel) (by decide +kernel)
theorem mlL_193 : MLv RL 193 kX6_read 2 := ⟨⟨w_1225, w_6, w_1228, by decide, by decide, by decide +kernel⟩, w_1226, w_1227⟩
theorem w_1229 : Cond.methodLink RX6 313 yX6_isSo ∈ Tw := tw_of (i := 1229) (by decide +kernel) (by decide +kernel)
theorem w_1232 : Cond.code yX6_isSo cX6_isSo 5 (some .int) ∈ Tw := tw_of (i := 1232) (by decide +kernel) (by decide +kernel)
theorem ws_mlX6_313 : Cond.selects RX6 yX6_isSo yX6_isSo ∈ Tw := tw_sel (q := (⟨"BentPlainModel", "isSo", "(II)I"⟩, 17)) (i := 53) (by decide +kernel)
theorem w_1231 : Cond.instanceMethod yX6_isSo ∈ Tw := tw_of (i := 1231) (by decide +kernel) (by decide +kernel)
theorem mlX6_313 : MLv RX6 313 kX6_isSo 2 := ⟨⟨w_1229, w_6, w_1232, by decide, by decide, by decide +kernel⟩, w_1231, ws_mlX6_313⟩
theorem w_1233 : Cond.methodLink RL 197 yX6_image ∈ Tw := tw_of (i := 1233) (by decide +kernel) (by decide +kernel)
theorem w_1236 : Cond.code yX6_image cX6_image 2 (some .int) ∈ Tw := tw_of (i := 1236) (by decide +kernel) (by decide +kernel)
theorem w_1235 : Cond.selects RX6 yX6_image yX6_image ∈ Tw := tw_of (i := 1235) (by decide +kernel) (by decide +kernel)
theorem w_1234 : Cond.instanceMethod yX6_image ∈ Tw := tw_of (i := 1234) (by decide +kernel) (by decide +kernel)
theorem mlL_197 : MLv RL 197 kX6_image 0 := ⟨⟨w_1233, w_6, w_1236, by decide, by decide, by decide +kernel⟩, w_1234, w_1235⟩
theorem w_1237 : Cond.methodLink RL 201 yX6_undo ∈ Tw := tw_of (i := 1237) (by decide +kernel) (by decide +kernel)
theorem w_1240 : Cond.code yX6_undo cX6_undo 2 (some .int) ∈ Tw := tw_of (i := 1240) (by decide +kernel) (by decide +kernel)
theorem w_1239 : Cond.selects RX6 yX6_undo yX6_undo ∈ Tw := tw_of (i := 1239) (by decide +kernel) (by decide +kernel)
theorem w_1238 : Cond.instanceMethod yX6_undo ∈ Tw := tw_of (i := 1238) (by decide +kernel) (by decide +kernel)
theorem mlL_201 : MLv RL 201 kX6_undo 0 := ⟨⟨w_1237, w_6, w_1240, by decide, by decide, by decide +kernel⟩, w_1238, w_1239⟩
theorem w_1241 : Cond.methodLink RL 205 yX6_tear ∈ Tw := tw_of (i := 1241) (by decide +kernel) (by decide +kernel)
theorem w_1244 : Cond.code yX6_tear cX6_tear 2 (some .int) ∈ Tw := tw_of (i := 1244) (by decide +kernel) (by decide +kernel)
theorem w_1243 : Cond.selects RX6 yX6_tear yX6_tear ∈ Tw := tw_of (i := 1243) (by decide +kernel) (by decide +kernel)
theorem w_1242 : Cond.instanceMethod yX6_tear ∈ Tw := tw_of (i := 1242) (by decide +kernel) (by decide +kernel)
theorem mlL_205 : MLv RL 205 kX6_tear 0 := ⟨⟨w_1241, w_6, w_1244, by decide, by decide, by decide +kernel⟩, w_1242, w_1243⟩
theorem w_1245 : Cond.methodLink RL 209 yX6_count ∈ Tw := tw_of (i := 1245) (by decide +kernel) (by decide +kernel)
theorem w_1248 : Cond.code yX6_count cX6_count 2 (some .int) ∈ Tw := tw_of (i := 1248) (by decide +kernel) (by decide +kernel)
theorem w_1247 : Cond.selects RX6 yX6_count yX6_count ∈ Tw := tw_of (i := 1247) (by decide +kernel) (by decide +kernel)
theorem w_1246 : Cond.instanceMethod yX6_count ∈ Tw := tw_of (i := 1246) (by decide +kernel) (by decide +kernel)
theorem mlL_209 : MLv RL 209 kX6_count 1 := ⟨⟨w_1245, w_6, w_1248, by decide, by decide, by decide +kernel⟩, w_1246, w_1247⟩
theorem w_1249 : Cond.methodLink RX6 319 yX6_gluedSides ∈ Tw := tw_of (i := 1249) (by decide +kernel) (by decide +kernel)
theorem w_1252 : Cond.code yX6_gluedSides cX6_gluedSides 3 (some .int) ∈ Tw := tw_of (i := 1252) (by decide +kernel) (by decide +kernel)
theorem ws_mlX6_319 : Cond.selects RX6 yX6_gluedSides yX6_gluedSides ∈ Tw := tw_sel (q := (⟨"BentPlainModel", "gluedSides", "()I"⟩, 17)) (i := 54) (by decide +kernel)
theorem w_1251 : Cond.instanceMethod yX6_gluedSides ∈ Tw := tw_of (i := 1251) (by decide +kernel) (by decide +kernel)
theorem mlX6_319 : MLv RX6 319 kX6_gluedSides 0 := ⟨⟨w_1249, w_6, w_1252, by decide, by decide, by decide +kernel⟩, w_1251, ws_mlX6_319⟩
theorem w_1253 : Cond.methodLink RL 213 yX6_status ∈ Tw := tw_of (i := 1253) (by decide +kernel) (by decide +kernel)
theorem w_1256 : Cond.code yX6_status cX6_status 4 (some .int) ∈ Tw := tw_of (i := 1256) (by decide +kernel) (by decide +kernel)
theorem w_1255 : Cond.selects RX6 yX6_status yX6_status ∈ Tw := tw_of (i := 1255) (by decide +kernel) (by decide +kernel)
theorem w_1254 : Cond.instanceMethod yX6_status ∈ Tw := tw_of (i := 1254) (by decide +kernel) (by decide +kernel)
theorem mlL_213 : MLv RL 213 kX6_status 1 := ⟨⟨w_1253, w_6, w_1256, by decide, by decide, by decide +kernel⟩, w_1254, w_1255⟩
theorem mlX0_46 : MLn RX0 46 kX5_wayOf 2 := ⟨⟨"BentPlain", by decide +kernel⟩, w_1, w_187, ⟨by decide, by decide, by decide +kernel⟩, w_186⟩
theorem mlX0_68 : MLn RX0 68 kX5_fieldOf 1 := ⟨⟨"BentPlain", by decide +kernel⟩, w_1, w_223, ⟨by decide, by decide, by decide +kernel⟩, w_222⟩
theorem mlX5_151 : MLn RX5 151 kX4_payOf 2 := ⟨⟨"BentPlain", by decide +kernel⟩, w_3, w_294, ⟨by decide, by decide, by decide +kernel⟩, w_293⟩
theorem mlX0_74 : MLn RX0 74 kX5_turned 2 := ⟨⟨"BentPlain", by decide +kernel⟩, w_1, w_329, ⟨by decide, by decide, by decide +kernel⟩, w_328⟩
theorem mlX4_33 : MLn RX4 33 kX5_turned 2 := ⟨⟨"BentPlain", by decide +kernel⟩, w_1, w_329, ⟨by decide, by decide, by decide +kernel⟩, w_328⟩
theorem mlX4_37 : MLn RX4 37 kX5_fieldOf 1 := ⟨⟨"BentPlain", by decide +kernel⟩, w_1, w_223, ⟨by decide, by decide, by decide +kernel⟩, w_222⟩
theorem mlX3_101 : MLn RX3 101 kX5_wayOf 2 := ⟨⟨"BentPlain", by decide +kernel⟩, w_1, w_187, ⟨by decide, by decide, by decide +kernel⟩, w_186⟩
