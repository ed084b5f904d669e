theorem tw_of {w : Cond} {i : Nat} (h : tables_1[i]? = some w) (hg : goodWord w = true) : w ∈ Tw := List.mem_filter.mpr ⟨List.mem_append_right _ (List.mem_of_getElem? h), hg⟩
theorem tw_sel {q : MethodName × Nat} {i : Nat} (h : lw_privs[i]? = some q) : Cond.selects q.1.cls q.1 q.1 ∈ Tw := List.mem_filter.mpr ⟨List.mem_append_left _ (List.mem_map.mpr ⟨q, List.mem_of_getElem? h, rfl⟩), rfl⟩
abbrev kX5_init : Mth := (yX5_init, cX5_init, 2, none)
abbrev kX0_init : Mth := (yX0_init, cX0_init, 2, none)
abbrev kX4_init : Mth := (yX4_init, cX4_init, 1, none)
abbrev kX2_init : Mth := (yX2_init, cX2_init, 1, none)
abbrev kX3_init : Mth := (yX3_init, cX3_init, 3, none)
abbrev kX1_init : Mth := (yX1_init, cX1_init, 1, none)
abbrev kX5_field : Mth := (yX5_field, cX5_field, 2, (some .int))
abbrev kX5_isRough : Mth := (yX5_isRough, cX5_isRough, 1, (some .boolean))
abbrev kX5_tell : Mth := (yX5_tell, cX5_tell, 3, (some .int))
abbrev kX0_addField : Mth := (yX0_addField, cX0_addField, 4, (some .int))
abbrev kX5_wayOf : Mth := (yX5_wayOf, cX5_wayOf, 2, (some .int))
abbrev kX5_of : Mth := (yX5_of, cX5_of, 3, (some .int))
abbrev kX0_hasField : Mth := (yX0_hasField, cX0_hasField, 2, (some .boolean))
abbrev kX0_roughOf : Mth := (yX0_roughOf, cX0_roughOf, 2, (some .int))
abbrev kX0_gluedSidesOf : Mth := (yX0_gluedSidesOf, cX0_gluedSidesOf, 4, (some .int))
abbrev kX0_isFree : Mth := (yX0_isFree, cX0_isFree, 2, (some .boolean))
abbrev kX0_gluedTo : Mth := (yX0_gluedTo, cX0_gluedTo, 2, (some .int))
abbrev kX0_ways : Mth := (yX0_ways, cX0_ways, 1, (some .int))
abbrev kX0_walkersOn : Mth := (yX0_walkersOn, cX0_walkersOn, 4, (some .int))
abbrev kX5_fieldOf : Mth := (yX5_fieldOf, cX5_fieldOf, 1, (some .int))
abbrev kX5_rough : Mth := (yX5_rough, cX5_rough, 4, (some .int))
abbrev kX0_makeRough : Mth := (yX0_makeRough, cX0_makeRough, 3, none)
abbrev kX5_glue : Mth := (yX5_glue, cX5_glue, 7, (some .int))
abbrev kX0_hasWay : Mth := (yX0_hasWay, cX0_hasWay, 3, (some .boolean))
abbrev kX0_join : Mth := (yX0_join, cX0_join, 3, none)
abbrev kX5_cut : Mth := (yX5_cut, cX5_cut, 5, (some .int))
abbrev kX0_sever : Mth := (yX0_sever, cX0_sever, 3, none)
abbrev kX5_over : Mth := (yX5_over, cX5_over, 3, (some .int))
abbrev kX5_numberOrNone : Mth := (yX5_numberOrNone, cX5_numberOrNone, 2, (some .int))
abbrev kX5_walker : Mth := (yX5_walker, cX5_walker, 4, (some .int))
abbrev kX5_isKind : Mth := (yX5_isKind, cX5_isKind, 1, (some .boolean))
abbrev kX0_addWalker : Mth := (yX0_addWalker, cX0_addWalker, 3, (some .int))
abbrev kX4_begin : Mth := (yX4_begin, cX4_begin, 3, none)
abbrev kX5_its : Mth := (yX5_its, cX5_its, 4, (some .int))
abbrev kX0_hasWalker : Mth := (yX0_hasWalker, cX0_hasWalker, 2, (some .boolean))
abbrev kX5_headingOf : Mth := (yX5_headingOf, cX5_headingOf, 1, (some .int))
abbrev kX4_payOf : Mth := (yX4_payOf, cX4_payOf, 2, (some .int))
abbrev kX4_above : Mth := (yX4_above, cX4_above, 1, (some .int))
abbrev kX5_place : Mth := (yX5_place, cX5_place, 6, (some .int))
abbrev kX5_turn : Mth := (yX5_turn, cX5_turn, 5, (some .int))
abbrev kX5_as : Mth := (yX5_as, cX5_as, 4, (some .int))
abbrev kX4_isUnder : Mth := (yX4_isUnder, cX4_isUnder, 4, (some .boolean))
abbrev kX5_step : Mth := (yX5_step, cX5_step, 3, (some .int))
abbrev kX4_move : Mth := (yX4_move, cX4_move, 4, none)
abbrev kX0_goOn : Mth := (yX0_goOn, cX0_goOn, 3, (some .int))
abbrev kX5_turned : Mth := (yX5_turned, cX5_turned, 2, (some .int))
abbrev kX4_quartersAtBump : Mth := (yX4_quartersAtBump, cX4_quartersAtBump, 1, (some .int))
abbrev kX4_quartersOnComing : Mth := (yX4_quartersOnComing, cX4_quartersOnComing, 3, (some .int))
abbrev kX5_steps : Mth := (yX5_steps, cX5_steps, 3, (some .int))
abbrev kX4_moveOften : Mth := (yX4_moveOften, cX4_moveOften, 4, none)
abbrev kX0_milesOfAll : Mth := (yX0_milesOfAll, cX0_milesOfAll, 3, (some .int))
abbrev kX5_on : Mth := (yX5_on, cX5_on, 4, (some .int))
abbrev kX5_isStepsOn : Mth := (yX5_isStepsOn, cX5_isStepsOn, 1, (some .boolean))
abbrev kX4_become : Mth := (yX4_become, cX4_become, 2, none)
abbrev kX5_when : Mth := (yX5_when, cX5_when, 4, (some .int))
abbrev kX5_back : Mth := (yX5_back, cX5_back, 4, (some .int))
abbrev kX5_meet : Mth := (yX5_meet, cX5_meet, 4, (some .int))
abbrev kX5_spares : Mth := (yX5_spares, cX5_spares, 5, (some .int))
abbrev kX5_closes : Mth := (yX5_closes, cX5_closes, 6, (some .int))
abbrev kX5_bumps : Mth := (yX5_bumps, cX5_bumps, 5, (some .int))
abbrev kX5_square : Mth := (yX5_square, cX5_square, 7, (some .int))
abbrev kX0_goOnOften : Mth := (yX0_goOnOften, cX0_goOnOften, 5, (some .int))
abbrev kX5_dine : Mth := (yX5_dine, cX5_dine, 8, (some .int))
abbrev kX5_sees : Mth := (yX5_sees, cX5_sees, 3, (some .int))
abbrev kX0_seenFrom : Mth := (yX0_seenFrom, cX0_seenFrom, 5, (some .int))
abbrev kX5_twice : Mth := (yX5_twice, cX5_twice, 6, (some .int))
abbrev kJ6_bitCount_0f7a4 : Mth := (yJ6_bitCount_0f7a4, cJ6_bitCount_0f7a4, 1, (some .int))
abbrev kX5_about : Mth := (yX5_about, cX5_about, 5, (some .int))
abbrev kX0_roundCorner : Mth := (yX0_roundCorner, cX0_roundCorner, 7, (some .long))
abbrev kJ13_bitCount_95d88 : Mth := (yJ13_bitCount_95d88, cJ13_bitCount_95d88, 2, (some .int))
abbrev kX5_corners : Mth := (yX5_corners, cX5_corners, 1, (some .int))
abbrev kX0_sumOfCorners : Mth := (yX0_sumOfCorners, cX0_sumOfCorners, 9, (some .int))
abbrev kX5_excess : Mth := (yX5_excess, cX5_excess, 1, (some .int))
abbrev kX5_bent : Mth := (yX5_bent, cX5_bent, 5, (some .int))
abbrev kX5_parts : Mth := (yX5_parts, cX5_parts, 4, (some .int))
abbrev kX0_spread : Mth := (yX0_spread, cX0_spread, 9, none)
abbrev kJ7_fill_53178 : Mth := (yJ7_fill_53178, cJ7_fill_53178, 4, none)
abbrev kX0_lower : Mth := (yX0_lower, cX0_lower, 3, (some .boolean))
abbrev kX5_reached : Mth := (yX5_reached, cX5_reached, 4, (some .int))
abbrev kX5_far : Mth := (yX5_far, cX5_far, 3, (some .int))
abbrev kX5_least : Mth := (yX5_least, cX5_least, 5, (some .int))
abbrev kX5_smooth : Mth := (yX5_smooth, cX5_smooth, 3, (some .int))
abbrev kX5_turns : Mth := (yX5_turns, cX5_turns, 6, (some .int))
abbrev kX0_spreadTurning : Mth := (yX0_spreadTurning, cX0_spreadTurning, 6, none)
abbrev kJ9_min_7cf53 : Mth := (yJ9_min_7cf53, cJ9_min_7cf53, 2, (some .int))
abbrev kX5_within : Mth := (yX5_within, cX5_within, 3, (some .int))
abbrev kX5_mends : Mth := (yX5_mends, cX5_mends, 8, (some .int))
abbrev kX5_farThrough : Mth := (yX5_farThrough, cX5_farThrough, 5, (some .int))
abbrev kX5_feed : Mth := (yX5_feed, cX5_feed, 4, (some .int))
abbrev kX2_add : Mth := (yX2_add, cX2_add, 2, none)
abbrev kX5_wipe : Mth := (yX5_wipe, cX5_wipe, 2, (some .int))
abbrev kX5_plain : Mth := (yX5_plain, cX5_plain, 2, (some .int))
abbrev kX0_become : Mth := (yX0_become, cX0_become, 3, none)
abbrev kX3_tellAll : Mth := (yX3_tellAll, cX3_tellAll, 2, (some .int))
abbrev kX2_begin : Mth := (yX2_begin, cX2_begin, 1, none)
abbrev kX2_advance : Mth := (yX2_advance, cX2_advance, 1, none)
abbrev kX2_isLetter : Mth := (yX2_isLetter, cX2_isLetter, 1, (some .boolean))
abbrev kX2_isDigit : Mth := (yX2_isDigit, cX2_isDigit, 1, (some .boolean))
abbrev kX3_tellItem : Mth := (yX3_tellItem, cX3_tellItem, 1, (some .boolean))
abbrev kX2_isWord : Mth := (yX2_isWord, cX2_isWord, 3, (some .boolean))
abbrev kJ0_length_8abf5 : Mth := (yJ0_length_8abf5, cJ0_length_8abf5, 1, (some .int))
abbrev kJ0_coder_7d493 : Mth := (yJ0_coder_7d493, cJ0_coder_7d493, 1, (some .byte))
abbrev kJ0_charAt_5068e : Mth := (yJ0_charAt_5068e, cJ0_charAt_5068e, 2, (some .char))
abbrev kJ0_isLatin1_aae02 : Mth := (yJ0_isLatin1_aae02, cJ0_isLatin1_aae02, 1, (some .boolean))
abbrev kJ1_charAt_3b067 : Mth := (yJ1_charAt_3b067, cJ1_charAt_3b067, 2, (some .char))
abbrev kJ0_checkIndex_df160 : Mth := (yJ0_checkIndex_df160, cJ0_checkIndex_df160, 2, none)
abbrev kJ3_checkIndex_8e157 : Mth := (yJ3_checkIndex_8e157, cJ3_checkIndex_8e157, 3, (some .int))
abbrev kJ2_charAt_3b067 : Mth := (yJ2_charAt_3b067, cJ2_charAt_3b067, 2, (some .char))
abbrev kJ2_checkIndex_2214a : Mth := (yJ2_checkIndex_2214a, cJ2_checkIndex_2214a, 2, none)
abbrev kJ2_length_9d52b : Mth := (yJ2_length_9d52b, cJ2_length_9d52b, 1, (some .int))
abbrev kJ2_getChar_3b067 : Mth := (yJ2_getChar_3b067, cJ2_getChar_3b067, 2, (some .char))
abbrev kX3_tellField : Mth := (yX3_tellField, cX3_tellField, 2, (some .boolean))
abbrev kX2_isNumberBelow : Mth := (yX2_isNumberBelow, cX2_isNumberBelow, 2, (some .boolean))
abbrev kX3_tellGlue : Mth := (yX3_tellGlue, cX3_tellGlue, 3, (some .boolean))
abbrev kX3_lookAtSide : Mth := (yX3_lookAtSide, cX3_lookAtSide, 3, (some .int))
abbrev kX3_sideNamed : Mth := (yX3_sideNamed, cX3_sideNamed, 2, (some .int))
abbrev kX3_sideName : Mth := (yX3_sideName, cX3_sideName, 1, (some (.object "java/lang/String")))
abbrev kX3_tellCut : Mth := (yX3_tellCut, cX3_tellCut, 2, (some .boolean))
abbrev kX3_tellWalker : Mth := (yX3_tellWalker, cX3_tellWalker, 3, (some .boolean))
abbrev kX3_kindNamed : Mth := (yX3_kindNamed, cX3_kindNamed, 2, (some .int))
abbrev kX3_kindName : Mth := (yX3_kindName, cX3_kindName, 1, (some (.object "java/lang/String")))
abbrev kX5_sheet : Mth := (yX5_sheet, cX5_sheet, 5, (some .int))
abbrev kX5_isSheet : Mth := (yX5_isSheet, cX5_isSheet, 1, (some .boolean))
abbrev kX1_begin : Mth := (yX1_begin, cX1_begin, 3, none)
abbrev kJ7_fill_d0a16 : Mth := (yJ7_fill_d0a16, cJ7_fill_d0a16, 5, none)
abbrev kX5_write : Mth := (yX5_write, cX5_write, 9, (some .long))
abbrev kX5_sheetFinding : Mth := (yX5_sheetFinding, cX5_sheetFinding, 2, (some .int))
abbrev kX1_lowestBits : Mth := (yX1_lowestBits, cX1_lowestBits, 3, (some .long))
abbrev kX5_copy : Mth := (yX5_copy, cX5_copy, 8, (some .int))
abbrev kX1_hasRow : Mth := (yX1_hasRow, cX1_hasRow, 3, (some .boolean))
abbrev kX5_lays : Mth := (yX5_lays, cX5_lays, 8, (some .int))
abbrev kX5_book : Mth := (yX5_book, cX5_book, 6, (some .int))
abbrev kX5_bookFinding : Mth := (yX5_bookFinding, cX5_bookFinding, 4, (some .int))
abbrev kX5_read : Mth := (yX5_read, cX5_read, 6, (some .int))
abbrev kX5_goesByBook : Mth := (yX5_goesByBook, cX5_goesByBook, 3, (some .boolean))
abbrev kX5_image : Mth := (yX5_image, cX5_image, 1, (some .int))
abbrev kX5_undo : Mth := (yX5_undo, cX5_undo, 1, (some .int))
abbrev kX5_tear : Mth := (yX5_tear, cX5_tear, 2, (some .int))
abbrev kX5_count : Mth := (yX5_count, cX5_count, 2, (some .int))
abbrev kX0_gluedSides : Mth := (yX0_gluedSides, cX0_gluedSides, 3, (some .int))
abbrev kX5_status : Mth := (yX5_status, cX5_status, 4, (some .int))
abbrev kX6_init : Mth := (yX6_init, cX6_init, 1, none)
abbrev kX6_field : Mth := (yX6_field, cX6_field, 2, (some .int))
abbrev kX6_in : Mth := (yX6_in, cX6_in, 6, (some .boolean))
abbrev kX6_finds : Mth := (yX6_finds, cX6_finds, 2, (some .int))
abbrev kX6_adds : Mth := (yX6_adds, cX6_adds, 2, (some .int))
abbrev kX6_of : Mth := (yX6_of, cX6_of, 3, (some .int))
abbrev kX6_isField : Mth := (yX6_isField, cX6_isField, 2, (some .boolean))
abbrev kX6_gluedOf : Mth := (yX6_gluedOf, cX6_gluedOf, 4, (some .int))
abbrev kX6_those : Mth := (yX6_those, cX6_those, 4, (some .int))
abbrev kX6_partOf : Mth := (yX6_partOf, cX6_partOf, 3, (some .int))
abbrev kX6_spot : Mth := (yX6_spot, cX6_spot, 2, (some .int))
abbrev kX6_rough : Mth := (yX6_rough, cX6_rough, 3, (some .int))
abbrev kX6_becomes : Mth := (yX6_becomes, cX6_becomes, 4, (some .int))
abbrev kX6_glue : Mth := (yX6_glue, cX6_glue, 5, (some .int))
abbrev kX6_isWay : Mth := (yX6_isWay, cX6_isWay, 3, (some .boolean))
abbrev kX6_isSide : Mth := (yX6_isSide, cX6_isSide, 1, (some .boolean))
abbrev kX6_glues : Mth := (yX6_glues, cX6_glues, 3, none)
abbrev kX6_cut : Mth := (yX6_cut, cX6_cut, 4, (some .int))
abbrev kX6_cuts : Mth := (yX6_cuts, cX6_cuts, 2, none)
abbrev kX6_over : Mth := (yX6_over, cX6_over, 4, (some .int))
abbrev kX6_walker : Mth := (yX6_walker, cX6_walker, 4, (some .int))
abbrev kX6_isKind : Mth := (yX6_isKind, cX6_isKind, 1, (some .boolean))
abbrev kX6_comes : Mth := (yX6_comes, cX6_comes, 5, (some .int))
abbrev kX6_its : Mth := (yX6_its, cX6_its, 3, (some .int))
abbrev kX6_isWalker : Mth := (yX6_isWalker, cX6_isWalker, 2, (some .boolean))
abbrev kX6_pays : Mth := (yX6_pays, cX6_pays, 2, (some .int))
abbrev kX6_place : Mth := (yX6_place, cX6_place, 5, (some .int))
abbrev kX6_wayOf : Mth := (yX6_wayOf, cX6_wayOf, 2, (some .int))
abbrev kX6_stands : Mth := (yX6_stands, cX6_stands, 3, none)
abbrev kX6_turn : Mth := (yX6_turn, cX6_turn, 3, (some .int))
abbrev kX6_as : Mth := (yX6_as, cX6_as, 4, (some .int))
abbrev kX6_above : Mth := (yX6_above, cX6_above, 1, (some .int))
abbrev kX6_step : Mth := (yX6_step, cX6_step, 2, (some .int))
abbrev kX6_goes : Mth := (yX6_goes, cX6_goes, 6, none)
abbrev kX6_onward : Mth := (yX6_onward, cX6_onward, 3, (some .int))
abbrev kX6_atBump : Mth := (yX6_atBump, cX6_atBump, 1, (some .int))
abbrev kX6_quarters : Mth := (yX6_quarters, cX6_quarters, 3, (some .int))
abbrev kX6_steps : Mth := (yX6_steps, cX6_steps, 3, (some .int))
abbrev kX6_all : Mth := (yX6_all, cX6_all, 2, none)
abbrev kX6_allMiles : Mth := (yX6_allMiles, cX6_allMiles, 3, (some .int))
abbrev kX6_on : Mth := (yX6_on, cX6_on, 5, (some .int))
abbrev kX6_laysAside : Mth := (yX6_laysAside, cX6_laysAside, 2, none)
abbrev kX6_takesBack : Mth := (yX6_takesBack, cX6_takesBack, 3, (some .int))
abbrev kX6_when : Mth := (yX6_when, cX6_when, 4, (some .int))
abbrev kX6_orNone : Mth := (yX6_orNone, cX6_orNone, 3, (some .int))
abbrev kX6_back : Mth := (yX6_back, cX6_back, 4, (some .int))
abbrev kX6_meet : Mth := (yX6_meet, cX6_meet, 4, (some .int))
abbrev kX6_spares : Mth := (yX6_spares, cX6_spares, 4, (some .int))
abbrev kX6_closes : Mth := (yX6_closes, cX6_closes, 6, (some .int))
abbrev kX6_bumps : Mth := (yX6_bumps, cX6_bumps, 5, (some .int))
abbrev kX6_square : Mth := (yX6_square, cX6_square, 8, (some .int))
abbrev kX6_dine : Mth := (yX6_dine, cX6_dine, 8, (some .int))
abbrev kX6_sees : Mth := (yX6_sees, cX6_sees, 3, (some .int))
abbrev kX6_seen : Mth := (yX6_seen, cX6_seen, 4, (some .int))
abbrev kX6_twice : Mth := (yX6_twice, cX6_twice, 6, (some .int))
abbrev kX6_ones : Mth := (yX6_ones, cX6_ones, 3, (some .int))
abbrev kX6_about : Mth := (yX6_about, cX6_about, 4, (some .int))
abbrev kX6_aboutOf : Mth := (yX6_aboutOf, cX6_aboutOf, 4, (some .int))
abbrev kX6_beside : Mth := (yX6_beside, cX6_beside, 3, (some .int))
abbrev kX6_corners : Mth := (yX6_corners, cX6_corners, 3, (some .int))
abbrev kX6_isFirst : Mth := (yX6_isFirst, cX6_isFirst, 4, (some .boolean))
abbrev kX6_excess : Mth := (yX6_excess, cX6_excess, 3, (some .int))
abbrev kX6_bent : Mth := (yX6_bent, cX6_bent, 3, (some .int))
abbrev kX6_parts : Mth := (yX6_parts, cX6_parts, 6, (some .int))
abbrev kX6_spread : Mth := (yX6_spread, cX6_spread, 4, (some .int))
abbrev kX6_far : Mth := (yX6_far, cX6_far, 3, (some .int))
abbrev kX6_farOf : Mth := (yX6_farOf, cX6_farOf, 5, (some .int))
abbrev kX6_smooth : Mth := (yX6_smooth, cX6_smooth, 7, (some .int))
abbrev kX6_turns : Mth := (yX6_turns, cX6_turns, 10, (some .int))
abbrev kX6_within : Mth := (yX6_within, cX6_within, 5, (some .int))
abbrev kX6_mends : Mth := (yX6_mends, cX6_mends, 8, (some .int))
abbrev kX6_feed : Mth := (yX6_feed, cX6_feed, 4, (some .int))
abbrev kX6_wipe : Mth := (yX6_wipe, cX6_wipe, 2, (some .int))
abbrev kX6_plain : Mth := (yX6_plain, cX6_plain, 2, (some .int))
abbrev kX6_saves : Mth := (yX6_saves, cX6_saves, 2, none)
abbrev kX6_token : Mth := (yX6_token, cX6_token, 3, none)
abbrev kX6_byteAt : Mth := (yX6_byteAt, cX6_byteAt, 2, (some .int))
abbrev kX6_isLetter : Mth := (yX6_isLetter, cX6_isLetter, 1, (some .boolean))
abbrev kX6_isDigit : Mth := (yX6_isDigit, cX6_isDigit, 1, (some .boolean))
abbrev kX6_item : Mth := (yX6_item, cX6_item, 4, none)
abbrev kX6_kindHere : Mth := (yX6_kindHere, cX6_kindHere, 3, (some .int))
abbrev kX6_word : Mth := (yX6_word, cX6_word, 4, (some .long))
abbrev kX6_walkerItem : Mth := (yX6_walkerItem, cX6_walkerItem, 5, none)
abbrev kX6_wants : Mth := (yX6_wants, cX6_wants, 2, none)
abbrev kX6_fieldHere : Mth := (yX6_fieldHere, cX6_fieldHere, 1, none)
abbrev kX6_number : Mth := (yX6_number, cX6_number, 6, none)
abbrev kX6_sideNamed : Mth := (yX6_sideNamed, cX6_sideNamed, 3, (some .int))
abbrev kX6_fieldItem : Mth := (yX6_fieldItem, cX6_fieldItem, 3, none)
abbrev kX6_glueItem : Mth := (yX6_glueItem, cX6_glueItem, 3, none)
abbrev kX6_sideHere : Mth := (yX6_sideHere, cX6_sideHere, 6, (some .int))
abbrev kX6_cutItem : Mth := (yX6_cutItem, cX6_cutItem, 2, none)
abbrev kX6_putsBack : Mth := (yX6_putsBack, cX6_putsBack, 2, none)
abbrev kX6_sheet : Mth := (yX6_sheet, cX6_sheet, 5, (some .int))
abbrev kX6_isOne : Mth := (yX6_isOne, cX6_isOne, 1, (some .boolean))
abbrev kX6_write : Mth := (yX6_write, cX6_write, 8, (some .long))
abbrev kX6_wrong : Mth := (yX6_wrong, cX6_wrong, 2, (some .int))
abbrev kX6_narrowed : Mth := (yX6_narrowed, cX6_narrowed, 3, (some .long))
abbrev kX6_copy : Mth := (yX6_copy, cX6_copy, 7, (some .int))
abbrev kX6_lays : Mth := (yX6_lays, cX6_lays, 7, (some .int))
abbrev kX6_book : Mth := (yX6_book, cX6_book, 5, (some .int))
abbrev kX6_wrongBook : Mth := (yX6_wrongBook, cX6_wrongBook, 4, (some .int))
abbrev kX6_read : Mth := (yX6_read, cX6_read, 6, (some .int))
abbrev kX6_isSo : Mth := (yX6_isSo, cX6_isSo, 5, (some .int))
abbrev kX6_image : Mth := (yX6_image, cX6_image, 2, (some .int))
abbrev kX6_undo : Mth := (yX6_undo, cX6_undo, 2, (some .int))
abbrev kX6_tear : Mth := (yX6_tear, cX6_tear, 2, (some .int))
abbrev kX6_count : Mth := (yX6_count, cX6_count, 2, (some .int))
abbrev kX6_gluedSides : Mth := (yX6_gluedSides, cX6_gluedSides, 3, (some .int))
abbrev kX6_status : Mth := (yX6_status, cX6_status, 4, (some .int))
theorem w_38 : Cond.fieldLink RX4 9 "BentPlain$Walker" "kind" "I" ∈ Tw := tw_of (i := 38) (by decide +kernel) (by decide +kernel)
theorem flX4_9 : FL RX4 9 4 0 := ⟨_, rfl, by decide, w_38, rfl⟩
theorem fpX4_9 : FP RX4 9 4 0 .int := ⟨_, rfl, by decide, w_38, rfl, rfl, by decide +kernel⟩
theorem w_39 : Cond.fieldLink RX5 142 "BentPlain$Walker" "kind" "I" ∈ Tw := tw_of (i := 39) (by decide +kernel) (by decide +kernel)
theorem flX5_142 : FL RX5 142 4 0 := ⟨_, rfl, by decide, w_39, rfl⟩
theorem fpX5_142 : FP RX5 142 4 0 .int := ⟨_, rfl, by decide, w_39, rfl, rfl, by decide +kernel⟩
theorem w_40 : Cond.fieldLink RX4 15 "BentPlain$Walker" "way" "I" ∈ Tw := tw_of (i := 40) (by decide +kernel) (by decide +kernel)
theorem flX4_15 : FL RX4 15 4 1 := ⟨_, rfl, by decide, w_40, rfl⟩
theorem fpX4_15 : FP RX4 15 4 1 .int := ⟨_, rfl, by decide, w_40, rfl, rfl, by decide +kernel⟩
theorem w_41 : Cond.fieldLink RX5 145 "BentPlain$Walker" "way" "I" ∈ Tw := tw_of (i := 41) (by decide +kernel) (by decide +kernel)
theorem flX5_145 : FL RX5 145 4 1 := ⟨_, rfl, by decide, w_41, rfl⟩
theorem fpX5_145 : FP RX5 145 4 1 .int := ⟨_, rfl, by decide, w_41, rfl, rfl, by decide +kernel⟩
theorem w_42 : Cond.fieldLink RX0 65 "BentPlain$Walker" "way" "I" ∈ Tw := tw_of (i := 42) (by decide +kernel) (by decide +kernel)
theorem flX0_65 : FL RX0 65 4 1 := ⟨_, rfl, by decide, w_42, rfl⟩
theorem fpX0_65 : FP RX0 65 4 1 .int := ⟨_, rfl, by decide, w_42, rfl, rfl, by decide +kernel⟩
theorem w_43 : Cond.fieldLink RX4 18 "BentPlain$Walker" "miles" "I" ∈ Tw := tw_of (i := 43) (by decide +kernel) (by decide +kernel)
theorem flX4_18 : FL RX4 18 4 2 := ⟨_, rfl, by decide, w_43, rfl⟩
theorem fpX4_18 : FP RX4 18 4 2 .int := ⟨_, rfl, by decide, w_43, rfl, rfl, by decide +kernel⟩
theorem w_44 : Cond.fieldLink RX5 154 "BentPlain$Walker" "miles" "I" ∈ Tw := tw_of (i := 44) (by decide +kernel) (by decide +kernel)
theorem flX5_154 : FL RX5 154 4 2 := ⟨_, rfl, by decide, w_44, rfl⟩
theorem fpX5_154 : FP RX5 154 4 2 .int := ⟨_, rfl, by decide, w_44, rfl, rfl, by decide +kernel⟩
theorem w_45 : Cond.fieldLink RX0 71 "BentPlain$Walker" "miles" "I" ∈ Tw := tw_of (i := 45) (by decide +kernel) (by decide +kernel)
theorem flX0_71 : FL RX0 71 4 2 := ⟨_, rfl, by decide, w_45, rfl⟩
theorem fpX0_71 : FP RX0 71 4 2 .int := ⟨_, rfl, by decide, w_45, rfl, rfl, by decide +kernel⟩
theorem w_46 : Cond.fieldLink RX4 21 "BentPlain$Walker" "bumped" "I" ∈ Tw := tw_of (i := 46) (by decide +kernel) (by decide +kernel)
theorem flX4_21 : FL RX4 21 4 3 := ⟨_, rfl, by decide, w_46, rfl⟩
theorem fpX4_21 : FP RX4 21 4 3 .int := ⟨_, rfl, by decide, w_46, rfl, rfl, by decide +kernel⟩
theorem w_47 : Cond.fieldLink RX5 157 "BentPlain$Walker" "bumped" "I" ∈ Tw := tw_of (i := 47) (by decide +kernel) (by decide +kernel)
theorem flX5_157 : FL RX5 157 4 3 := ⟨_, rfl, by decide, w_47, rfl⟩
theorem fpX5_157 : FP RX5 157 4 3 .int := ⟨_, rfl, by decide, w_47, rfl, rfl, by decide +kernel⟩
theorem w_58 : Cond.fieldLink RX0 25 "BentPlain$Ground" "fields" "I" ∈ Tw := tw_of (i := 58) (by decide +kernel) (by decide +kernel)
theorem flX0_25 : FL RX0 25 0 0 := ⟨_, rfl, by decide, w_58, rfl⟩
theorem fpX0_25 : FP RX0 25 0 0 .int := ⟨_, rfl, by decide, w_58, rfl, rfl, by decide +kernel⟩
theorem w_59 : Cond.fieldLink RX5 77 "BentPlain$Ground" "fields" "I" ∈ Tw := tw_of (i := 59) (by decide +kernel) (by decide +kernel)
theorem flX5_77 : FL RX5 77 0 0 := ⟨_, rfl, by decide, w_59, rfl⟩
theorem fpX5_77 : FP RX5 77 0 0 .int := ⟨_, rfl, by decide, w_59, rfl, rfl, by decide +kernel⟩
theorem w_60 : Cond.fieldLink RX3 60 "BentPlain$Ground" "fields" "I" ∈ Tw := tw_of (i := 60) (by decide +kernel) (by decide +kernel)
theorem flX3_60 : FL RX3 60 0 0 := ⟨_, rfl, by decide, w_60, rfl⟩
theorem fpX3_60 : FP RX3 60 0 0 .int := ⟨_, rfl, by decide, w_60, rfl, rfl, by decide +kernel⟩
theorem w_61 : Cond.fieldLink RX0 29 "BentPlain$Ground" "walkers" "I" ∈ Tw := tw_of (i := 61) (by decide +kernel) (by decide +kernel)
theorem flX0_29 : FL RX0 29 0 1 := ⟨_, rfl, by decide, w_61, rfl⟩
theorem fpX0_29 : FP RX0 29 0 1 .int := ⟨_, rfl, by decide, w_61, rfl, rfl, by decide +kernel⟩
theorem w_62 : Cond.fieldLink RX3 96 "BentPlain$Ground" "walkers" "I" ∈ Tw := tw_of (i := 62) (by decide +kernel) (by decide +kernel)
theorem flX3_96 : FL RX3 96 0 1 := ⟨_, rfl, by decide, w_62, rfl⟩
theorem fpX3_96 : FP RX3 96 0 1 .int := ⟨_, rfl, by decide, w_62, rfl, rfl, by decide +kernel⟩
theorem w_63 : Cond.fieldLink RX5 129 "BentPlain$Ground" "walkers" "I" ∈ Tw := tw_of (i := 63) (by decide +kernel) (by decide +kernel)
theorem flX5_129 : FL RX5 129 0 1 := ⟨_, rfl, by decide, w_63, rfl⟩
theorem fpX5_129 : FP RX5 129 0 1 .int := ⟨_, rfl, by decide, w_63, rfl, rfl, by decide +kernel⟩
theorem w_64 : Cond.fieldLink RX0 11 "BentPlain$Ground" "people" "[LBentPlain$Walker;" ∈ Tw := tw_of (i := 64) (by decide +kernel) (by decide +kernel)
theorem flX0_11 : FL RX0 11 0 2 := ⟨_, rfl, by decide, w_64, rfl⟩
theorem w_65 : Cond.fieldLink RX5 138 "BentPlain$Ground" "people" "[LBentPlain$Walker;" ∈ Tw := tw_of (i := 65) (by decide +kernel) (by decide +kernel)
theorem flX5_138 : FL RX5 138 0 2 := ⟨_, rfl, by decide, w_65, rfl⟩
theorem w_66 : Cond.fieldLink RX0 17 "BentPlain$Ground" "roughs" "[I" ∈ Tw := tw_of (i := 66) (by decide +kernel) (by decide +kernel)
theorem flX0_17 : FL RX0 17 0 3 := ⟨_, rfl, by decide, w_66, rfl⟩
theorem w_67 : Cond.fieldLink RX0 21 "BentPlain$Ground" "glued" "[I" ∈ Tw := tw_of (i := 67) (by decide +kernel) (by decide +kernel)
theorem flX0_21 : FL RX0 21 0 4 := ⟨_, rfl, by decide, w_67, rfl⟩
theorem w_87 : Cond.fieldLink RX2 15 "BentPlain$Tape" "length" "I" ∈ Tw := tw_of (i := 87) (by decide +kernel) (by decide +kernel)
theorem flX2_15 : FL RX2 15 2 0 := ⟨_, rfl, by decide, w_87, rfl⟩
theorem fpX2_15 : FP RX2 15 2 0 .int := ⟨_, rfl, by decide, w_87, rfl, rfl, by decide +kernel⟩
theorem w_88 : Cond.fieldLink RX5 244 "BentPlain$Tape" "length" "I" ∈ Tw := tw_of (i := 88) (by decide +kernel) (by decide +kernel)
theorem flX5_244 : FL RX5 244 2 0 := ⟨_, rfl, by decide, w_88, rfl⟩
theorem fpX5_244 : FP RX5 244 2 0 .int := ⟨_, rfl, by decide, w_88, rfl, rfl, by decide +kernel⟩
theorem w_89 : Cond.fieldLink RX3 32 "BentPlain$Tape" "sort" "I" ∈ Tw := tw_of (i := 89) (by decide +kernel) (by decide +kernel)
theorem flX3_32 : FL RX3 32 2 1 := ⟨_, rfl, by decide, w_89, rfl⟩
theorem fpX3_32 : FP RX3 32 2 1 .int := ⟨_, rfl, by decide, w_89, rfl, rfl, by decide +kernel⟩
theorem w_90 : Cond.fieldLink RX2 35 "BentPlain$Tape" "sort" "I" ∈ Tw := tw_of (i := 90) (by decide +kernel) (by decide +kernel)
theorem flX2_35 : FL RX2 35 2 1 := ⟨_, rfl, by decide, w_90, rfl⟩
theorem fpX2_35 : FP RX2 35 2 1 .int := ⟨_, rfl, by decide, w_90, rfl, rfl, by decide +kernel⟩
theorem w_91 : Cond.fieldLink RX3 28 "BentPlain$Tape" "start" "I" ∈ Tw := tw_of (i := 91) (by decide +kernel) (by decide +kernel)
theorem flX3_28 : FL RX3 28 2 2 := ⟨_, rfl, by decide, w_91, rfl⟩
theorem fpX3_28 : FP RX3 28 2 2 .int := ⟨_, rfl, by decide, w_91, rfl, rfl, by decide +kernel⟩
theorem w_92 : Cond.fieldLink RX2 25 "BentPlain$Tape" "start" "I" ∈ Tw := tw_of (i := 92) (by decide +kernel) (by decide +kernel)
theorem flX2_25 : FL RX2 25 2 2 := ⟨_, rfl, by decide, w_92, rfl⟩
theorem fpX2_25 : FP RX2 25 2 2 .int := ⟨_, rfl, by decide, w_92, rfl, rfl, by decide +kernel⟩
theorem w_93 : Cond.fieldLink RX2 28 "BentPlain$Tape" "number" "I" ∈ Tw := tw_of (i := 93) (by decide +kernel) (by decide +kernel)
theorem flX2_28 : FL RX2 28 2 3 := ⟨_, rfl, by decide, w_93, rfl⟩
theorem fpX2_28 : FP RX2 28 2 3 .int := ⟨_, rfl, by decide, w_93, rfl, rfl, by decide +kernel⟩
theorem w_94 : Cond.fieldLink RX3 71 "BentPlain$Tape" "number" "I" ∈ Tw := tw_of (i := 94) (by decide +kernel) (by decide +kernel)
theorem flX3_71 : FL RX3 71 2 3 := ⟨_, rfl, by decide, w_94, rfl⟩
theorem fpX3_71 : FP RX3 71 2 3 .int := ⟨_, rfl, by decide, w_94, rfl, rfl, by decide +kernel⟩
theorem w_95 : Cond.fieldLink RX2 19 "BentPlain$Tape" "end" "I" ∈ Tw := tw_of (i := 95) (by decide +kernel) (by decide +kernel)
theorem flX2_19 : FL RX2 19 2 4 := ⟨_, rfl, by decide, w_95, rfl⟩
theorem fpX2_19 : FP RX2 19 2 4 .int := ⟨_, rfl, by decide, w_95, rfl, rfl, by decide +kernel⟩
theorem w_96 : Cond.fieldLink RX2 9 "BentPlain$Tape" "bytes" "[I" ∈ Tw := tw_of (i := 96) (by decide +kernel) (by decide +kernel)
theorem flX2_9 : FL RX2 9 2 5 := ⟨_, rfl, by decide, w_96, rfl⟩
theorem w_116 : Cond.fieldLink RX3 9 "BentPlain$Teller" "tape" "LBentPlain$Tape;" ∈ Tw := tw_of (i := 116) (by decide +kernel) (by decide +kernel)
theorem flX3_9 : FL RX3 9 3 0 := ⟨_, rfl, by decide, w_116, rfl⟩
theorem w_117 : Cond.fieldLink RX3 15 "BentPlain$Teller" "ground" "LBentPlain$Ground;" ∈ Tw := tw_of (i := 117) (by decide +kernel) (by decide +kernel)
theorem flX3_15 : FL RX3 15 3 1 := ⟨_, rfl, by decide, w_117, rfl⟩
theorem w_130 : Cond.fieldLink RX1 15 "BentPlain$Sheet" "bits" "I" ∈ Tw := tw_of (i := 130) (by decide +kernel) (by decide +kernel)
theorem flX1_15 : FL RX1 15 1 0 := ⟨_, rfl, by decide, w_130, rfl⟩
theorem fpX1_15 : FP RX1 15 1 0 .int := ⟨_, rfl, by decide, w_130, rfl, rfl, by decide +kernel⟩
theorem w_131 : Cond.fieldLink RX5 276 "BentPlain$Sheet" "bits" "I" ∈ Tw := tw_of (i := 131) (by decide +kernel) (by decide +kernel)
theorem flX5_276 : FL RX5 276 1 0 := ⟨_, rfl, by decide, w_131, rfl⟩
theorem fpX5_276 : FP RX5 276 1 0 .int := ⟨_, rfl, by decide, w_131, rfl, rfl, by decide +kernel⟩
theorem w_132 : Cond.fieldLink RX1 19 "BentPlain$Sheet" "size" "I" ∈ Tw := tw_of (i := 132) (by decide +kernel) (by decide +kernel)
theorem flX1_19 : FL RX1 19 1 1 := ⟨_, rfl, by decide, w_132, rfl⟩
theorem fpX1_19 : FP RX1 19 1 1 .int := ⟨_, rfl, by decide, w_132, rfl, rfl, by decide +kernel⟩
theorem w_133 : Cond.fieldLink RX5 262 "BentPlain$Sheet" "size" "I" ∈ Tw := tw_of (i := 133) (by decide +kernel) (by decide +kernel)
theorem flX5_262 : FL RX5 262 1 1 := ⟨_, rfl, by decide, w_133, rfl⟩
theorem fpX5_262 : FP RX5 262 1 1 .int := ⟨_, rfl, by decide, w_133, rfl, rfl, by decide +kernel⟩
theorem w_134 : Cond.fieldLink RX1 9 "BentPlain$Sheet" "numbers" "[J" ∈ Tw := tw_of (i := 134) (by decide +kernel) (by decide +kernel)
theorem flX1_9 : FL RX1 9 1 2 := ⟨_, rfl, by decide, w_134, rfl⟩
theorem w_135 : Cond.fieldLink RX5 268 "BentPlain$Sheet" "numbers" "[J" ∈ Tw := tw_of (i := 135) (by decide +kernel) (by decide +kernel)
theorem flX5_268 : FL RX5 268 1 2 := ⟨_, rfl, by decide, w_135, rfl⟩
theorem w_144 : Cond.fieldLink RX5 12 "BentPlain" "now" "LBentPlain$Ground;" ∈ Tw := tw_of (i := 144) (by decide +kernel) (by decide +kernel)
theorem flX5_12 : FL RX5 12 5 0 := ⟨_, rfl, by decide, w_144, rfl⟩
theorem w_145 : Cond.fieldLink RX5 16 "BentPlain" "kept" "LBentPlain$Ground;" ∈ Tw := tw_of (i := 145) (by decide +kernel) (by decide +kernel)
theorem flX5_16 : FL RX5 16 5 1 := ⟨_, rfl, by decide, w_145, rfl⟩
theorem w_146 : Cond.fieldLink RX5 19 "BentPlain" "before" "LBentPlain$Ground;" ∈ Tw := tw_of (i := 146) (by decide +kernel) (by decide +kernel)
theorem flX5_19 : FL RX5 19 5 2 := ⟨_, rfl, by decide, w_146, rfl⟩
theorem w_147 : Cond.fieldLink RX5 25 "BentPlain" "probe" "LBentPlain$Walker;" ∈ Tw := tw_of (i := 147) (by decide +kernel) (by decide +kernel)
theorem flX5_25 : FL RX5 25 5 3 := ⟨_, rfl, by decide, w_147, rfl⟩
theorem w_148 : Cond.fieldLink RX5 29 "BentPlain" "otherProbe" "LBentPlain$Walker;" ∈ Tw := tw_of (i := 148) (by decide +kernel) (by decide +kernel)
theorem flX5_29 : FL RX5 29 5 4 := ⟨_, rfl, by decide, w_148, rfl⟩
theorem w_149 : Cond.fieldLink RX5 32 "BentPlain" "distances" "[I" ∈ Tw := tw_of (i := 149) (by decide +kernel) (by decide +kernel)
theorem flX5_32 : FL RX5 32 5 5 := ⟨_, rfl, by decide, w_149, rfl⟩
theorem w_150 : Cond.fieldLink RX5 36 "BentPlain" "otherDistances" "[I" ∈ Tw := tw_of (i := 150) (by decide +kernel) (by decide +kernel)
theorem flX5_36 : FL RX5 36 5 6 := ⟨_, rfl, by decide, w_150, rfl⟩
theorem w_151 : Cond.fieldLink RX5 39 "BentPlain" "quarters" "[I" ∈ Tw := tw_of (i := 151) (by decide +kernel) (by decide +kernel)
theorem flX5_39 : FL RX5 39 5 7 := ⟨_, rfl, by decide, w_151, rfl⟩
theorem w_152 : Cond.fieldLink RX5 45 "BentPlain" "tape" "LBentPlain$Tape;" ∈ Tw := tw_of (i := 152) (by decide +kernel) (by decide +kernel)
theorem flX5_45 : FL RX5 45 5 8 := ⟨_, rfl, by decide, w_152, rfl⟩
theorem w_153 : Cond.fieldLink RX5 54 "BentPlain" "teller" "LBentPlain$Teller;" ∈ Tw := tw_of (i := 153) (by decide +kernel) (by decide +kernel)
theorem flX5_54 : FL RX5 54 5 9 := ⟨_, rfl, by decide, w_153, rfl⟩
theorem w_154 : Cond.fieldLink RX5 60 "BentPlain" "sheets" "[LBentPlain$Sheet;" ∈ Tw := tw_of (i := 154) (by decide +kernel) (by decide +kernel)
theorem flX5_60 : FL RX5 60 5 10 := ⟨_, rfl, by decide, w_154, rfl⟩
theorem w_155 : Cond.fieldLink RX5 64 "BentPlain" "found" "[I" ∈ Tw := tw_of (i := 155) (by decide +kernel) (by decide +kernel)
theorem flX5_64 : FL RX5 64 5 11 := ⟨_, rfl, by decide, w_155, rfl⟩
theorem w_156 : Cond.fieldLink RX5 298 "BentPlain" "hasKept" "Z" ∈ Tw := tw_of (i := 156) (by decide +kernel) (by decide +kernel)
theorem flX5_298 : FL RX5 298 5 12 := ⟨_, rfl, by decide, w_156, rfl⟩
theorem fpX5_298 : FP RX5 298 5 12 .boolean := ⟨_, rfl, by decide, w_156, rfl, rfl, by decide +kernel⟩
theorem w_774 : Cond.fieldLink RX6 7 "BentPlainModel" "s" "[I" ∈ Tw := tw_of (i := 774) (by decide +kernel) (by decide +kernel)
theorem flX6_7 : FL RX6 7 6 0 := ⟨_, rfl, by decide, w_774, rfl⟩
theorem w_775 : Cond.fieldLink RX6 13 "BentPlainModel" "keptS" "[I" ∈ Tw := tw_of (i := 775) (by decide +kernel) (by decide +kernel)
theorem flX6_13 : FL RX6 13 6 1 := ⟨_, rfl, by decide, w_775, rfl⟩
theorem w_776 : Cond.fieldLink RX6 16 "BentPlainModel" "other" "[I" ∈ Tw := tw_of (i := 776) (by decide +kernel) (by decide +kernel)
theorem flX6_16 : FL RX6 16 6 2 := ⟨_, rfl, by decide, w_776, rfl⟩
theorem w_777 : Cond.fieldLink RX6 19 "BentPlainModel" "aside" "[I" ∈ Tw := tw_of (i := 777) (by decide +kernel) (by decide +kernel)
theorem flX6_19 : FL RX6 19 6 3 := ⟨_, rfl, by decide, w_777, rfl⟩
theorem w_778 : Cond.fieldLink RX6 22 "BentPlainModel" "statuses" "[I" ∈ Tw := tw_of (i := 778) (by decide +kernel) (by decide +kernel)
theorem flX6_22 : FL RX6 22 6 4 := ⟨_, rfl, by decide, w_778, rfl⟩
theorem w_779 : Cond.fieldLink RX6 316 "BentPlainModel" "isKept" "Z" ∈ Tw := tw_of (i := 779) (by decide +kernel) (by decide +kernel)
theorem flX6_316 : FL RX6 316 6 5 := ⟨_, rfl, by decide, w_779, rfl⟩
theorem fpX6_316 : FP RX6 316 6 5 .boolean := ⟨_, rfl, by decide, w_779, rfl, rfl, by decide +kernel⟩
theorem w_780 : Cond.fieldLink RX6 25 "BentPlainModel" "least" "[I" ∈ Tw := tw_of (i := 780) (by decide +kernel) (by decide +kernel)
theorem flX6_25 : FL RX6 25 6 6 := ⟨_, rfl, by decide, w_780, rfl⟩
theorem w_781 : Cond.fieldLink RX6 28 "BentPlainModel" "tape" "[I" ∈ Tw := tw_of (i := 781) (by decide +kernel) (by decide +kernel)
theorem flX6_28 : FL RX6 28 6 7 := ⟨_, rfl, by decide, w_781, rfl⟩
theorem w_782 : Cond.fieldLink RX6 182 "BentPlainModel" "taped" "I" ∈ Tw := tw_of (i := 782) (by decide +kernel) (by decide +kernel)
theorem flX6_182 : FL RX6 182 6 8 := ⟨_, rfl, by decide, w_782, rfl⟩
theorem fpX6_182 : FP RX6 182 6 8 .int := ⟨_, rfl, by decide, w_782, rfl, rfl, by decide +kernel⟩
theorem w_783 : Cond.fieldLink RX6 197 "BentPlainModel" "from" "I" ∈ Tw := tw_of (i := 783) (by decide +kernel) (by decide +kernel)
theorem flX6_197 : FL RX6 197 6 9 := ⟨_, rfl, by decide, w_783, rfl⟩
theorem fpX6_197 : FP RX6 197 6 9 .int := ⟨_, rfl, by decide, w_783, rfl, rfl, by decide +kernel⟩
theorem w_784 : Cond.fieldLink RX6 194 "BentPlainModel" "to" "I" ∈ Tw := tw_of (i := 784) (by decide +kernel) (by decide +kernel)
theorem flX6_194 : FL RX6 194 6 10 := ⟨_, rfl, by decide, w_784, rfl⟩
theorem fpX6_194 : FP RX6 194 6 10 .int := ⟨_, rfl, by decide, w_784, rfl, rfl, by decide +kernel⟩
theorem w_785 : Cond.fieldLink RX6 220 "BentPlainModel" "value" "I" ∈ Tw := tw_of (i := 785) (by decide +kernel) (by decide +kernel)
theorem flX6_220 : FL RX6 220 6 11 := ⟨_, rfl, by decide, w_785, rfl⟩
theorem fpX6_220 : FP RX6 220 6 11 .int := ⟨_, rfl, by decide, w_785, rfl, rfl, by decide +kernel⟩
theorem w_786 : Cond.fieldLink RX6 209 "BentPlainModel" "isWrong" "Z" ∈ Tw := tw_of (i := 786) (by decide +kernel) (by decide +kernel)
theorem flX6_209 : FL RX6 209 6 12 := ⟨_, rfl, by decide, w_786, rfl⟩
theorem fpX6_209 : FP RX6 209 6 12 .boolean := ⟨_, rfl, by decide, w_786, rfl, rfl, by decide +kernel⟩
theorem w_787 : Cond.fieldLink RX6 31 "BentPlainModel" "bitsOf" "[I" ∈ Tw := tw_of (i := 787) (by decide +kernel) (by decide +kernel)
theorem flX6_31 : FL RX6 31 6 13 := ⟨_, rfl, by decide, w_787, rfl⟩
theorem w_788 : Cond.fieldLink RX6 34 "BentPlainModel" "sizeOf" "[I" ∈ Tw := tw_of (i := 788) (by decide +kernel) (by decide +kernel)
theorem flX6_34 : FL RX6 34 6 14 := ⟨_, rfl, by decide, w_788, rfl⟩
theorem w_789 : Cond.fieldLink RX6 37 "BentPlainModel" "numbers" "[J" ∈ Tw := tw_of (i := 789) (by decide +kernel) (by decide +kernel)
theorem flX6_37 : FL RX6 37 6 15 := ⟨_, rfl, by decide, w_789, rfl⟩
theorem w_790 : Cond.fieldLink RX6 41 "BentPlainModel" "moved" "[J" ∈ Tw := tw_of (i := 790) (by decide +kernel) (by decide +kernel)
theorem flX6_41 : FL RX6 41 6 16 := ⟨_, rfl, by decide, w_790, rfl⟩
theorem w_191 : Cond.constant RX5 72 (-1000000001) ∈ Tw := tw_of (i := 191) (by decide +kernel) (by decide +kernel)
theorem w_196 : Cond.constant RX5 81 (-1000000002) ∈ Tw := tw_of (i := 196) (by decide +kernel) (by decide +kernel)
theorem w_258 : Cond.constant RX5 112 (-1000000005) ∈ Tw := tw_of (i := 258) (by decide +kernel) (by decide +kernel)
theorem w_280 : Cond.constant RX5 186 (-1000000004) ∈ Tw := tw_of (i := 280) (by decide +kernel) (by decide +kernel)
theorem w_330 : Cond.constant RX5 166 (-1000000003) ∈ Tw := tw_of (i := 330) (by decide +kernel) (by decide +kernel)
theorem w_433 : Cond.constant RJ6 265 (1431655765) ∈ Tw := tw_of (i := 433) (by decide +kernel) (by decide +kernel)
theorem w_434 : Cond.constant RJ6 266 (858993459) ∈ Tw := tw_of (i := 434) (by decide +kernel) (by decide +kernel)
theorem w_435 : Cond.constant RJ6 267 (252645135) ∈ Tw := tw_of (i := 435) (by decide +kernel) (by decide +kernel)
theorem w_477 : Cond.constant RX0 90 (1000000) ∈ Tw := tw_of (i := 477) (by decide +kernel) (by decide +kernel)
theorem w_485 : Cond.constant RX5 223 (999999) ∈ Tw := tw_of (i := 485) (by decide +kernel) (by decide +kernel)
theorem w_498 : Cond.constant RX5 235 (1000000) ∈ Tw := tw_of (i := 498) (by decide +kernel) (by decide +kernel)
theorem w_693 : Cond.constant RX5 258 (-1000000007) ∈ Tw := tw_of (i := 693) (by decide +kernel) (by decide +kernel)
theorem w_709 : Cond.constant RX5 279 (-1000000006) ∈ Tw := tw_of (i := 709) (by decide +kernel) (by decide +kernel)
theorem w_834 : Cond.constant RX6 44 (-1000000001) ∈ Tw := tw_of (i := 834) (by decide +kernel) (by decide +kernel)
theorem w_839 : Cond.constant RX6 73 (-1000000002) ∈ Tw := tw_of (i := 839) (by decide +kernel) (by decide +kernel)
theorem w_888 : Cond.constant RX6 92 (-1000000005) ∈ Tw := tw_of (i := 888) (by decide +kernel) (by decide +kernel)
theorem w_905 : Cond.constant RX6 101 (-1000000004) ∈ Tw := tw_of (i := 905) (by decide +kernel) (by decide +kernel)
theorem w_952 : Cond.constant RX6 133 (-1000000003) ∈ Tw := tw_of (i := 952) (by decide +kernel) (by decide +kernel)
theorem w_1091 : Cond.constant RX6 173 (1000000) ∈ Tw := tw_of (i := 1091) (by decide +kernel) (by decide +kernel)
theorem w_1092 : Cond.constant RX6 177 (999999) ∈ Tw := tw_of (i := 1092) (by decide +kernel) (by decide +kernel)
theorem w_1221 : Cond.constant RX6 301 (-1000000007) ∈ Tw := tw_of (i := 1221) (by decide +kernel) (by decide +kernel)
theorem w_1230 : Cond.constant RX6 302 (-1000000006) ∈ Tw := tw_of (i := 1230) (by decide +kernel) (by decide +kernel)
theorem w_447 : Cond.constantLong RJ13 314 (6148914691236517205) ∈ Tw := tw_of (i := 447) (by decide +kernel) (by decide +kernel)
theorem w_448 : Cond.constantLong RJ13 316 (3689348814741910323) ∈ Tw := tw_of (i := 448) (by decide +kernel) (by decide +kernel)
theorem w_449 : Cond.constantLong RJ13 318 (1085102592571150095) ∈ Tw := tw_of (i := 449) (by decide +kernel) (by decide +kernel)
theorem w_727 : Cond.constantLong RX5 289 (9) ∈ Tw := tw_of (i := 727) (by decide +kernel) (by decide +kernel)
theorem w_830 : Cond.constantLong RX6 67 (9) ∈ Tw := tw_of (i := 830) (by decide +kernel) (by decide +kernel)
theorem w_852 : Cond.constantLong RX6 77 (2) ∈ Tw := tw_of (i := 852) (by decide +kernel) (by decide +kernel)
theorem w_887 : Cond.constantLong RX6 49 (3) ∈ Tw := tw_of (i := 887) (by decide +kernel) (by decide +kernel)
theorem w_913 : Cond.constantLong RX6 51 (5) ∈ Tw := tw_of (i := 913) (by decide +kernel) (by decide +kernel)
theorem w_975 : Cond.constantLong RX6 137 (100) ∈ Tw := tw_of (i := 975) (by decide +kernel) (by decide +kernel)
theorem w_1105 : Cond.constantLong RX6 178 (16) ∈ Tw := tw_of (i := 1105) (by decide +kernel) (by decide +kernel)
theorem w_1114 : Cond.constantLong RX6 180 (4) ∈ Tw := tw_of (i := 1114) (by decide +kernel) (by decide +kernel)
theorem w_1138 : Cond.constantLong RX6 186 (97) ∈ Tw := tw_of (i := 1138) (by decide +kernel) (by decide +kernel)
theorem w_1139 : Cond.constantLong RX6 188 (122) ∈ Tw := tw_of (i := 1139) (by decide +kernel) (by decide +kernel)
theorem w_1143 : Cond.constantLong RX6 190 (48) ∈ Tw := tw_of (i := 1143) (by decide +kernel) (by decide +kernel)
theorem w_1144 : Cond.constantLong RX6 192 (57) ∈ Tw := tw_of (i := 1144) (by decide +kernel) (by decide +kernel)
theorem w_1157 : Cond.constantLong RX6 216 (36028797018963967) ∈ Tw := tw_of (i := 1157) (by decide +kernel) (by decide +kernel)
theorem w_1158 : Cond.constantLong RX6 218 (32) ∈ Tw := tw_of (i := 1158) (by decide +kernel) (by decide +kernel)
theorem w_1159 : Cond.constantLong RX6 231 (773205170) ∈ Tw := tw_of (i := 1159) (by decide +kernel) (by decide +kernel)
theorem w_1160 : Cond.constantLong RX6 233 (676010845682) ∈ Tw := tw_of (i := 1160) (by decide +kernel) (by decide +kernel)
theorem w_1161 : Cond.constantLong RX6 235 (20917134514) ∈ Tw := tw_of (i := 1161) (by decide +kernel) (by decide +kernel)
theorem w_1162 : Cond.constantLong RX6 237 (2553) ∈ Tw := tw_of (i := 1162) (by decide +kernel) (by decide +kernel)
theorem w_1163 : Cond.constantLong RX6 239 (102322354) ∈ Tw := tw_of (i := 1163) (by decide +kernel) (by decide +kernel)
theorem w_1164 : Cond.constantLong RX6 241 (3124) ∈ Tw := tw_of (i := 1164) (by decide +kernel) (by decide +kernel)
theorem w_1173 : Cond.constantLong RX6 266 (52) ∈ Tw := tw_of (i := 1173) (by decide +kernel) (by decide +kernel)
theorem w_1186 : Cond.constantLong RX6 246 (15190664) ∈ Tw := tw_of (i := 1186) (by decide +kernel) (by decide +kernel)
theorem w_1187 : Cond.constantLong RX6 248 (165492) ∈ Tw := tw_of (i := 1187) (by decide +kernel) (by decide +kernel)
theorem w_1188 : Cond.constantLong RX6 250 (20436616) ∈ Tw := tw_of (i := 1188) (by decide +kernel) (by decide +kernel)
theorem w_1189 : Cond.constantLong RX6 252 (759412) ∈ Tw := tw_of (i := 1189) (by decide +kernel) (by decide +kernel)
theorem w_1190 : Cond.constantLong RX6 274 (6591876) ∈ Tw := tw_of (i := 1190) (by decide +kernel) (by decide +kernel)
theorem w_1195 : Cond.constantLong RX6 257 (19387624) ∈ Tw := tw_of (i := 1195) (by decide +kernel) (by decide +kernel)
theorem w_1196 : Cond.constantLong RX6 279 (242341) ∈ Tw := tw_of (i := 1196) (by decide +kernel) (by decide +kernel)
theorem w_1205 : Cond.constantLong RX6 284 (3764) ∈ Tw := tw_of (i := 1205) (by decide +kernel) (by decide +kernel)
theorem w_1282 : Cond.constantLong RX6 322 (-1) ∈ Tw := tw_of (i := 1282) (by decide +kernel) (by decide +kernel)
theorem w_1283 : Cond.constantLong RX6 324 (6) ∈ Tw := tw_of (i := 1283) (by decide +kernel) (by decide +kernel)
theorem w_1284 : Cond.constantLong RL 170 (4294967295) ∈ Tw := tw_of (i := 1284) (by decide +kernel) (by decide +kernel)
theorem w_184 : Cond.methodLink RL 13 yX5_field ∈ Tw := tw_of (i := 184) (by decide +kernel) (by decide +kernel)
theorem w_1 : Cond.initialized RX5 ∈ Tw := tw_of (i := 1) (by decide +kernel) (by decide +kernel)
theorem w_187 : Cond.code yX5_field cX5_field 2 (some .int) ∈ Tw := tw_of (i := 187) (by decide +kernel) (by decide +kernel)
theorem w_186 : Cond.selects RX5 yX5_field yX5_field ∈ Tw := tw_of (i := 186) (by decide +kernel) (by decide +kernel)
theorem w_185 : Cond.instanceMethod yX5_field ∈ Tw := tw_of (i := 185) (by decide +kernel) (by decide +kernel)
theorem mlL_13 : MLv RL 13 kX5_field 1 := ⟨⟨w_184, w_1, w_187, by decide, by decide, by decide +kernel⟩, w_185, w_186⟩
theorem w_188 : Cond.methodLink RX5 68 yX5_isRough ∈ Tw := tw_of (i := 188) (by decide +kernel) (by decide +kernel)
theorem w_190 : Cond.code yX5_isRough cX5_isRough 1 (some .boolean) ∈ Tw := tw_of (i := 190) (by decide +kernel) (by decide +kernel)
theorem w_189 : Cond.static yX5_isRough ∈ Tw := tw_of (i := 189) (by decide +kernel) (by decide +kernel)
theorem mlX5_68 : MLs RX5 68 kX5_isRough 1 := ⟨⟨w_188, w_1, w_190, by decide, by decide, by decide +kernel⟩, w_189⟩
theorem w_192 : Cond.methodLink RX5 73 yX5_tell ∈ Tw := tw_of (i := 192) (by decide +kernel) (by decide +kernel)
theorem w_195 : Cond.code yX5_tell cX5_tell 3 (some .int) ∈ Tw := tw_of (i := 195) (by decide +kernel) (by decide +kernel)
theorem ws_mlX5_73 : Cond.selects RX5 yX5_tell yX5_tell ∈ Tw := tw_sel (q := (⟨"BentPlain", "tell", "(I)I"⟩, 13)) (i := 0) (by decide +kernel)
theorem w_194 : Cond.instanceMethod yX5_tell ∈ Tw := tw_of (i := 194) (by decide +kernel) (by decide +kernel)
theorem mlX5_73 : MLv RX5 73 kX5_tell 1 := ⟨⟨w_192, w_1, w_195, by decide, by decide, by decide +kernel⟩, w_194, ws_mlX5_73⟩
theorem w_197 : Cond.methodLink RX5 82 yX0_addField ∈ Tw := tw_of (i := 197) (by decide +kernel) (by decide +kernel)
theorem w_2 : Cond.initialized RX0 ∈ Tw := tw_of (i := 2) (by decide +kernel) (by decide +kernel)
theorem w_200 : Cond.code yX0_addField cX0_addField 4 (some .int) ∈ Tw := tw_of (i := 200) (by decide +kernel) (by decide +kernel)
theorem w_199 : Cond.selects RX0 yX0_addField yX0_addField ∈ Tw := tw_of (i := 199) (by decide +kernel) (by decide +kernel)
theorem w_198 : Cond.instanceMethod yX0_addField ∈ Tw := tw_of (i := 198) (by decide +kernel) (by decide +kernel)
theorem mlX5_82 : MLv RX5 82 kX0_addField 1 := ⟨⟨w_197, w_2, w_200, by decide, by decide, by decide +kernel⟩, w_198, w_199⟩
theorem w_204 : Cond.methodLink RL 18 yX5_of ∈ Tw := tw_of (i := 204) (by decide +kernel) (by decide +kernel)
theorem w_207 : Cond.code yX5_of cX5_of 3 (some .int) ∈ Tw := tw_of (i := 207) (by decide +kernel) (by decide +kernel)
theorem w_206 : Cond.selects RX5 yX5_of yX5_of ∈ Tw := tw_of (i := 206) (by decide +kernel) (by decide +kernel)
theorem w_205 : Cond.instanceMethod yX5_of ∈ Tw := tw_of (i := 205) (by decide +kernel) (by decide +kernel)
theorem mlL_18 : MLv RL 18 kX5_of 2 := ⟨⟨w_204, w_1, w_207, by decide, by decide, by decide +kernel⟩, w_205, w_206⟩
theorem w_208 : Cond.methodLink RX5 85 yX0_hasField ∈ Tw := tw_of (i := 208) (by decide +kernel) (by decide +kernel)
theorem w_211 : Cond.code yX0_hasField cX0_hasField 2 (some .boolean) ∈ Tw := tw_of (i := 211) (by decide +kernel) (by decide +kernel)
theorem w_210 : Cond.selects RX0 yX0_hasField yX0_hasField ∈ Tw := tw_of (i := 210) (by decide +kernel) (by decide +kernel)
theorem w_209 : Cond.instanceMethod yX0_hasField ∈ Tw := tw_of (i := 209) (by decide +kernel) (by decide +kernel)
theorem mlX5_85 : MLv RX5 85 kX0_hasField 1 := ⟨⟨w_208, w_2, w_211, by decide, by decide, by decide +kernel⟩, w_209, w_210⟩
theorem w_212 : Cond.methodLink RX5 88 yX0_roughOf ∈ Tw := tw_of (i := 212) (by decide +kernel) (by decide +kernel)
theorem w_215 : Cond.code yX0_roughOf cX0_roughOf 2 (some .int) ∈ Tw := tw_of (i := 215) (by decide +kernel) (by decide +kernel)
theorem w_214 : Cond.selects RX0 yX0_roughOf yX0_roughOf ∈ Tw := tw_of (i := 214) (by decide +kernel) (by decide +kernel)
theorem w_213 : Cond.instanceMethod yX0_roughOf ∈ Tw := tw_of (i := 213) (by decide +kernel) (by decide +kernel)
theorem mlX5_88 : MLv RX5 88 kX0_roughOf 1 := ⟨⟨w_212, w_2, w_215, by decide, by decide, by decide +kernel⟩, w_213, w_214⟩
theorem w_216 : Cond.methodLink RX0 42 yX0_hasField ∈ Tw := tw_of (i := 216) (by decide +kernel) (by decide +kernel)
theorem mlX0_42 : MLv RX0 42 kX0_hasField 1 := ⟨⟨w_216, w_2, w_211, by decide, by decide, by decide +kernel⟩, w_209, w_210⟩
theorem w_217 : Cond.methodLink RX5 91 yX0_gluedSidesOf ∈ Tw := tw_of (i := 217) (by decide +kernel) (by decide +kernel)
theorem w_220 : Cond.code yX0_gluedSidesOf cX0_gluedSidesOf 4 (some .int) ∈ Tw := tw_of (i := 220) (by decide +kernel) (by decide +kernel)
theorem w_219 : Cond.selects RX0 yX0_gluedSidesOf yX0_gluedSidesOf ∈ Tw := tw_of (i := 219) (by decide +kernel) (by decide +kernel)
theorem w_218 : Cond.instanceMethod yX0_gluedSidesOf ∈ Tw := tw_of (i := 218) (by decide +kernel) (by decide +kernel)
theorem mlX5_91 : MLv RX5 91 kX0_gluedSidesOf 1 := ⟨⟨w_217, w_2, w_220, by decide, by decide, by decide +kernel⟩, w_218, w_219⟩
theorem w_221 : Cond.methodLink RX0 62 yX0_isFree ∈ Tw := tw_of (i := 221) (by decide +kernel) (by decide +kernel)
theorem w_224 : Cond.code yX0_isFree cX0_isFree 2 (some .boolean) ∈ Tw := tw_of (i := 224) (by decide +kernel) (by decide +kernel)
theorem w_223 : Cond.selects RX0 yX0_isFree yX0_isFree ∈ Tw := tw_of (i := 223) (by decide +kernel) (by decide +kernel)
theorem w_222 : Cond.instanceMethod yX0_isFree ∈ Tw := tw_of (i := 222) (by decide +kernel) (by decide +kernel)
theorem mlX0_62 : MLv RX0 62 kX0_isFree 1 := ⟨⟨w_221, w_2, w_224, by decide, by decide, by decide +kernel⟩, w_222, w_223⟩
theorem w_225 : Cond.methodLink RX0 58 yX0_gluedTo ∈ Tw := tw_of (i := 225) (by decide +kernel) (by decide +kernel)
theorem w_228 : Cond.code yX0_gluedTo cX0_gluedTo 2 (some .int) ∈ Tw := tw_of (i := 228) (by decide +kernel) (by decide +kernel)
theorem w_227 : Cond.selects RX0 yX0_gluedTo yX0_gluedTo ∈ Tw := tw_of (i := 227) (by decide +kernel) (by decide +kernel)
theorem w_226 : Cond.instanceMethod yX0_gluedTo ∈ Tw := tw_of (i := 226) (by decide +kernel) (by decide +kernel)
theorem mlX0_58 : MLv RX0 58 kX0_gluedTo 1 := ⟨⟨w_225, w_2, w_228, by decide, by decide, by decide +kernel⟩, w_226, w_227⟩
theorem w_229 : Cond.methodLink RX0 54 yX0_ways ∈ Tw := tw_of (i := 229) (by decide +kernel) (by decide +kernel)
theorem w_232 : Cond.code yX0_ways cX0_ways 1 (some .int) ∈ Tw := tw_of (i := 232) (by decide +kernel) (by decide +kernel)
theorem w_231 : Cond.selects RX0 yX0_ways yX0_ways ∈ Tw := tw_of (i := 231) (by decide +kernel) (by decide +kernel)
theorem w_230 : Cond.instanceMethod yX0_ways ∈ Tw := tw_of (i := 230) (by decide +kernel) (by decide +kernel)
theorem mlX0_54 : MLv RX0 54 kX0_ways 0 := ⟨⟨w_229, w_2, w_232, by decide, by decide, by decide +kernel⟩, w_230, w_231⟩
theorem w_233 : Cond.methodLink RX5 94 yX0_walkersOn ∈ Tw := tw_of (i := 233) (by decide +kernel) (by decide +kernel)
theorem w_236 : Cond.code yX0_walkersOn cX0_walkersOn 4 (some .int) ∈ Tw := tw_of (i := 236) (by decide +kernel) (by decide +kernel)
theorem w_235 : Cond.selects RX0 yX0_walkersOn yX0_walkersOn ∈ Tw := tw_of (i := 235) (by decide +kernel) (by decide +kernel)
theorem w_234 : Cond.instanceMethod yX0_walkersOn ∈ Tw := tw_of (i := 234) (by decide +kernel) (by decide +kernel)
theorem mlX5_94 : MLv RX5 94 kX0_walkersOn 1 := ⟨⟨w_233, w_2, w_236, by decide, by decide, by decide +kernel⟩, w_234, w_235⟩
theorem w_240 : Cond.methodLink RL 23 yX5_rough ∈ Tw := tw_of (i := 240) (by decide +kernel) (by decide +kernel)
theorem w_243 : Cond.code yX5_rough cX5_rough 4 (some .int) ∈ Tw := tw_of (i := 243) (by decide +kernel) (by decide +kernel)
theorem w_242 : Cond.selects RX5 yX5_rough yX5_rough ∈ Tw := tw_of (i := 242) (by decide +kernel) (by decide +kernel)
theorem w_241 : Cond.instanceMethod yX5_rough ∈ Tw := tw_of (i := 241) (by decide +kernel) (by decide +kernel)
theorem mlL_23 : MLv RL 23 kX5_rough 2 := ⟨⟨w_240, w_1, w_243, by decide, by decide, by decide +kernel⟩, w_241, w_242⟩
theorem w_244 : Cond.methodLink RX5 97 yX0_makeRough ∈ Tw := tw_of (i := 244) (by decide +kernel) (by decide +kernel)
theorem w_247 : Cond.code yX0_makeRough cX0_makeRough 3 none ∈ Tw := tw_of (i := 247) (by decide +kernel) (by decide +kernel)
theorem w_246 : Cond.selects RX0 yX0_makeRough yX0_makeRough ∈ Tw := tw_of (i := 246) (by decide +kernel) (by decide +kernel)
theorem w_245 : Cond.instanceMethod yX0_makeRough ∈ Tw := tw_of (i := 245) (by decide +kernel) (by decide +kernel)
theorem mlX5_97 : MLv RX5 97 kX0_makeRough 2 := ⟨⟨w_244, w_2, w_247, by decide, by decide, by decide +kernel⟩, w_245, w_246⟩
theorem w_248 : Cond.methodLink RL 27 yX5_glue ∈ Tw := tw_of (i := 248) (by decide +kernel) (by decide +kernel)
theorem w_251 : Cond.code yX5_glue cX5_glue 7 (some .int) ∈ Tw := tw_of (i := 251) (by decide +kernel) (by decide +kernel)
theorem w_250 : Cond.selects RX5 yX5_glue yX5_glue ∈ Tw := tw_of (i := 250) (by decide +kernel) (by decide +kernel)
theorem w_249 : Cond.instanceMethod yX5_glue ∈ Tw := tw_of (i := 249) (by decide +kernel) (by decide +kernel)
theorem mlL_27 : MLv RL 27 kX5_glue 4 := ⟨⟨w_248, w_1, w_251, by decide, by decide, by decide +kernel⟩, w_249, w_250⟩
theorem w_252 : Cond.methodLink RX5 101 yX0_hasWay ∈ Tw := tw_of (i := 252) (by decide +kernel) (by decide +kernel)
theorem w_255 : Cond.code yX0_hasWay cX0_hasWay 3 (some .boolean) ∈ Tw := tw_of (i := 255) (by decide +kernel) (by decide +kernel)
theorem w_254 : Cond.selects RX0 yX0_hasWay yX0_hasWay ∈ Tw := tw_of (i := 254) (by decide +kernel) (by decide +kernel)
theorem w_253 : Cond.instanceMethod yX0_hasWay ∈ Tw := tw_of (i := 253) (by decide +kernel) (by decide +kernel)
theorem mlX5_101 : MLv RX5 101 kX0_hasWay 2 := ⟨⟨w_252, w_2, w_255, by decide, by decide, by decide +kernel⟩, w_253, w_254⟩
theorem w_256 : Cond.methodLink RX5 105 yX5_wayOf ∈ Tw := tw_of (i := 256) (by decide +kernel) (by decide +kernel)
theorem w_203 : Cond.code yX5_wayOf cX5_wayOf 2 (some .int) ∈ Tw := tw_of (i := 203) (by decide +kernel) (by decide +kernel)
theorem w_202 : Cond.static yX5_wayOf ∈ Tw := tw_of (i := 202) (by decide +kernel) (by decide +kernel)
theorem mlX5_105 : MLs RX5 105 kX5_wayOf 2 := ⟨⟨w_256, w_1, w_203, by decide, by decide, by decide +kernel⟩, w_202⟩
theorem w_257 : Cond.methodLink RX5 109 yX0_isFree ∈ Tw := tw_of (i := 257) (by decide +kernel) (by decide +kernel)
theorem mlX5_109 : MLv RX5 109 kX0_isFree 1 := ⟨⟨w_257, w_2, w_224, by decide, by decide, by decide +kernel⟩, w_222, w_223⟩
theorem w_259 : Cond.methodLink RX5 113 yX0_join ∈ Tw := tw_of (i := 259) (by decide +kernel) (by decide +kernel)
theorem w_262 : Cond.code yX0_join cX0_join 3 none ∈ Tw := tw_of (i := 262) (by decide +kernel) (by decide +kernel)
theorem w_261 : Cond.selects RX0 yX0_join yX0_join ∈ Tw := tw_of (i := 261) (by decide +kernel) (by decide +kernel)
theorem w_260 : Cond.instanceMethod yX0_join ∈ Tw := tw_of (i := 260) (by decide +kernel) (by decide +kernel)
theorem mlX5_113 : MLv RX5 113 kX0_join 2 := ⟨⟨w_259, w_2, w_262, by decide, by decide, by decide +kernel⟩, w_260, w_261⟩
theorem w_263 : Cond.methodLink RL 32 yX5_cut ∈ Tw := tw_of (i := 263) (by decide +kernel) (by decide +kernel)
theorem w_266 : Cond.code yX5_cut cX5_cut 5 (some .int) ∈ Tw := tw_of (i := 266) (by decide +kernel) (by decide +kernel)
theorem w_265 : Cond.selects RX5 yX5_cut yX5_cut ∈ Tw := tw_of (i := 265) (by decide +kernel) (by decide +kernel)
theorem w_264 : Cond.instanceMethod yX5_cut ∈ Tw := tw_of (i := 264) (by decide +kernel) (by decide +kernel)
theorem mlL_32 : MLv RL 32 kX5_cut 2 := ⟨⟨w_263, w_1, w_266, by decide, by decide, by decide +kernel⟩, w_264, w_265⟩
theorem w_267 : Cond.methodLink RX5 116 yX0_gluedTo ∈ Tw := tw_of (i := 267) (by decide +kernel) (by decide +kernel)
theorem mlX5_116 : MLv RX5 116 kX0_gluedTo 1 := ⟨⟨w_267, w_2, w_228, by decide, by decide, by decide +kernel⟩, w_226, w_227⟩
theorem w_268 : Cond.methodLink RX5 119 yX0_sever ∈ Tw := tw_of (i := 268) (by decide +kernel) (by decide +kernel)
theorem w_271 : Cond.code yX0_sever cX0_sever 3 none ∈ Tw := tw_of (i := 271) (by decide +kernel) (by decide +kernel)
theorem w_270 : Cond.selects RX0 yX0_sever yX0_sever ∈ Tw := tw_of (i := 270) (by decide +kernel) (by decide +kernel)
theorem w_269 : Cond.instanceMethod yX0_sever ∈ Tw := tw_of (i := 269) (by decide +kernel) (by decide +kernel)
theorem mlX5_119 : MLv RX5 119 kX0_sever 1 := ⟨⟨w_268, w_2, w_271, by decide, by decide, by decide +kernel⟩, w_269, w_270⟩
theorem w_272 : Cond.methodLink RL 36 yX5_over ∈ Tw := tw_of (i := 272) (by decide +kernel) (by decide +kernel)
theorem w_275 : Cond.code yX5_over cX5_over 3 (some .int) ∈ Tw := tw_of (i := 275) (by decide +kernel) (by decide +kernel)
theorem w_274 : Cond.selects RX5 yX5_over yX5_over ∈ Tw := tw_of (i := 274) (by decide +kernel) (by decide +kernel)
theorem w_273 : Cond.instanceMethod yX5_over ∈ Tw := tw_of (i := 273) (by decide +kernel) (by decide +kernel)
theorem mlL_36 : MLv RL 36 kX5_over 2 := ⟨⟨w_272, w_1, w_275, by decide, by decide, by decide +kernel⟩, w_273, w_274⟩
theorem w_276 : Cond.methodLink RX5 123 yX5_numberOrNone ∈ Tw := tw_of (i := 276) (by decide +kernel) (by decide +kernel)
theorem w_279 : Cond.code yX5_numberOrNone cX5_numberOrNone 2 (some .int) ∈ Tw := tw_of (i := 279) (by decide +kernel) (by decide +kernel)
theorem ws_mlX5_123 : Cond.selects RX5 yX5_numberOrNone yX5_numberOrNone ∈ Tw := tw_sel (q := (⟨"BentPlain", "numberOrNone", "(I)I"⟩, 13)) (i := 1) (by decide +kernel)
theorem w_278 : Cond.instanceMethod yX5_numberOrNone ∈ Tw := tw_of (i := 278) (by decide +kernel) (by decide +kernel)
theorem mlX5_123 : MLv RX5 123 kX5_numberOrNone 1 := ⟨⟨w_276, w_1, w_279, by decide, by decide, by decide +kernel⟩, w_278, ws_mlX5_123⟩
theorem w_281 : Cond.methodLink RL 40 yX5_walker ∈ Tw := tw_of (i := 281) (by decide +kernel) (by decide +kernel)
theorem w_284 : Cond.code yX5_walker cX5_walker 4 (some .int) ∈ Tw := tw_of (i := 284) (by decide +kernel) (by decide +kernel)
theorem w_283 : Cond.selects RX5 yX5_walker yX5_walker ∈ Tw := tw_of (i := 283) (by decide +kernel) (by decide +kernel)
theorem w_282 : Cond.instanceMethod yX5_walker ∈ Tw := tw_of (i := 282) (by decide +kernel) (by decide +kernel)
theorem mlL_40 : MLv RL 40 kX5_walker 3 := ⟨⟨w_281, w_1, w_284, by decide, by decide, by decide +kernel⟩, w_282, w_283⟩
theorem w_285 : Cond.methodLink RX5 126 yX5_isKind ∈ Tw := tw_of (i := 285) (by decide +kernel) (by decide +kernel)
theorem w_287 : Cond.code yX5_isKind cX5_isKind 1 (some .boolean) ∈ Tw := tw_of (i := 287) (by decide +kernel) (by decide +kernel)
theorem w_286 : Cond.static yX5_isKind ∈ Tw := tw_of (i := 286) (by decide +kernel) (by decide +kernel)
theorem mlX5_126 : MLs RX5 126 kX5_isKind 1 := ⟨⟨w_285, w_1, w_287, by decide, by decide, by decide +kernel⟩, w_286⟩
theorem w_288 : Cond.methodLink RX5 132 yX0_addWalker ∈ Tw := tw_of (i := 288) (by decide +kernel) (by decide +kernel)
theorem w_291 : Cond.code yX0_addWalker cX0_addWalker 3 (some .int) ∈ Tw := tw_of (i := 291) (by decide +kernel) (by decide +kernel)
theorem w_290 : Cond.selects RX0 yX0_addWalker yX0_addWalker ∈ Tw := tw_of (i := 290) (by decide +kernel) (by decide +kernel)
theorem w_289 : Cond.instanceMethod yX0_addWalker ∈ Tw := tw_of (i := 289) (by decide +kernel) (by decide +kernel)
theorem mlX5_132 : MLv RX5 132 kX0_addWalker 2 := ⟨⟨w_288, w_2, w_291, by decide, by decide, by decide +kernel⟩, w_289, w_290⟩
theorem w_292 : Cond.methodLink RX0 50 yX4_begin ∈ Tw := tw_of (i := 292) (by decide +kernel) (by decide +kernel)
theorem w_3 : Cond.initialized RX4 ∈ Tw := tw_of (i := 3) (by decide +kernel) (by decide +kernel)
theorem w_295 : Cond.code yX4_begin cX4_begin 3 none ∈ Tw := tw_of (i := 295) (by decide +kernel) (by decide +kernel)
theorem w_294 : Cond.selects RX4 yX4_begin yX4_begin ∈ Tw := tw_of (i := 294) (by decide +kernel) (by decide +kernel)
theorem w_293 : Cond.instanceMethod yX4_begin ∈ Tw := tw_of (i := 293) (by decide +kernel) (by decide +kernel)
theorem mlX0_50 : MLv RX0 50 kX4_begin 2 := ⟨⟨w_292, w_3, w_295, by decide, by decide, by decide +kernel⟩, w_293, w_294⟩
theorem w_296 : Cond.methodLink RL 45 yX5_its ∈ Tw := tw_of (i := 296) (by decide +kernel) (by decide +kernel)
theorem w_299 : Cond.code yX5_its cX5_its 4 (some .int) ∈ Tw := tw_of (i := 299) (by decide +kernel) (by decide +kernel)
theorem w_298 : Cond.selects RX5 yX5_its yX5_its ∈ Tw := tw_of (i := 298) (by decide +kernel) (by decide +kernel)
theorem w_297 : Cond.instanceMethod yX5_its ∈ Tw := tw_of (i := 297) (by decide +kernel) (by decide +kernel)
theorem mlL_45 : MLv RL 45 kX5_its 2 := ⟨⟨w_296, w_1, w_299, by decide, by decide, by decide +kernel⟩, w_297, w_298⟩
theorem w_300 : Cond.methodLink RX5 135 yX0_hasWalker ∈ Tw := tw_of (i := 300) (by decide +kernel) (by decide +kernel)
theorem w_303 : Cond.code yX0_hasWalker cX0_hasWalker 2 (some .boolean) ∈ Tw := tw_of (i := 303) (by decide +kernel) (by decide +kernel)
theorem w_302 : Cond.selects RX0 yX0_hasWalker yX0_hasWalker ∈ Tw := tw_of (i := 302) (by decide +kernel) (by decide +kernel)
theorem w_301 : Cond.instanceMethod yX0_hasWalker ∈ Tw := tw_of (i := 301) (by decide +kernel) (by decide +kernel)
theorem mlX5_135 : MLv RX5 135 kX0_hasWalker 1 := ⟨⟨w_300, w_2, w_303, by decide, by decide, by decide +kernel⟩, w_301, w_302⟩
theorem w_304 : Cond.methodLink RX5 148 yX5_fieldOf ∈ Tw := tw_of (i := 304) (by decide +kernel) (by decide +kernel)
theorem w_239 : Cond.code yX5_fieldOf cX5_fieldOf 1 (some .int) ∈ Tw := tw_of (i := 239) (by decide +kernel) (by decide +kernel)
theorem w_238 : Cond.static yX5_fieldOf ∈ Tw := tw_of (i := 238) (by decide +kernel) (by decide +kernel)
theorem mlX5_148 : MLs RX5 148 kX5_fieldOf 1 := ⟨⟨w_304, w_1, w_239, by decide, by decide, by decide +kernel⟩, w_238⟩
theorem w_305 : Cond.methodLink RX5 151 yX5_headingOf ∈ Tw := tw_of (i := 305) (by decide +kernel) (by decide +kernel)
theorem w_307 : Cond.code yX5_headingOf cX5_headingOf 1 (some .int) ∈ Tw := tw_of (i := 307) (by decide +kernel) (by decide +kernel)
theorem w_306 : Cond.static yX5_headingOf ∈ Tw := tw_of (i := 306) (by decide +kernel) (by decide +kernel)
theorem mlX5_151 : MLs RX5 151 kX5_headingOf 1 := ⟨⟨w_305, w_1, w_307, by decide, by decide, by decide +kernel⟩, w_306⟩
theorem w_311 : Cond.methodLink RX4 54 yX4_above ∈ Tw := tw_of (i := 311) (by decide +kernel) (by decide +kernel)
theorem w_313 : Cond.code yX4_above cX4_above 1 (some .int) ∈ Tw := tw_of (i := 313) (by decide +kernel) (by decide +kernel)
theorem w_312 : Cond.static yX4_above ∈ Tw := tw_of (i := 312) (by decide +kernel) (by decide +kernel)
theorem mlX4_54 : MLs RX4 54 kX4_above 1 := ⟨⟨w_311, w_3, w_313, by decide, by decide, by decide +kernel⟩, w_312⟩
theorem w_314 : Cond.methodLink RX4 43 yX4_payOf ∈ Tw := tw_of (i := 314) (by decide +kernel) (by decide +kernel)
theorem w_310 : Cond.code yX4_payOf cX4_payOf 2 (some .int) ∈ Tw := tw_of (i := 310) (by decide +kernel) (by decide +kernel)
theorem w_309 : Cond.static yX4_payOf ∈ Tw := tw_of (i := 309) (by decide +kernel) (by decide +kernel)
theorem mlX4_43 : MLs RX4 43 kX4_payOf 2 := ⟨⟨w_314, w_3, w_310, by decide, by decide, by decide +kernel⟩, w_309⟩
theorem w_315 : Cond.methodLink RL 49 yX5_place ∈ Tw := tw_of (i := 315) (by decide +kernel) (by decide +kernel)
theorem w_318 : Cond.code yX5_place cX5_place 6 (some .int) ∈ Tw := tw_of (i := 318) (by decide +kernel) (by decide +kernel)
theorem w_317 : Cond.selects RX5 yX5_place yX5_place ∈ Tw := tw_of (i := 317) (by decide +kernel) (by decide +kernel)
theorem w_316 : Cond.instanceMethod yX5_place ∈ Tw := tw_of (i := 316) (by decide +kernel) (by decide +kernel)
theorem mlL_49 : MLv RL 49 kX5_place 3 := ⟨⟨w_315, w_1, w_318, by decide, by decide, by decide +kernel⟩, w_316, w_317⟩
theorem w_319 : Cond.methodLink RL 53 yX5_turn ∈ Tw := tw_of (i := 319) (by decide +kernel) (by decide +kernel)
theorem w_322 : Cond.code yX5_turn cX5_turn 5 (some .int) ∈ Tw := tw_of (i := 322) (by decide +kernel) (by decide +kernel)
theorem w_321 : Cond.selects RX5 yX5_turn yX5_turn ∈ Tw := tw_of (i := 321) (by decide +kernel) (by decide +kernel)
theorem w_320 : Cond.instanceMethod yX5_turn ∈ Tw := tw_of (i := 320) (by decide +kernel) (by decide +kernel)
theorem mlL_53 : MLv RL 53 kX5_turn 2 := ⟨⟨w_319, w_1, w_322, by decide, by decide, by decide +kernel⟩, w_320, w_321⟩
theorem w_323 : Cond.methodLink RL 57 yX5_as ∈ Tw := tw_of (i := 323) (by decide +kernel) (by decide +kernel)
theorem w_326 : Cond.code yX5_as cX5_as 4 (some .int) ∈ Tw := tw_of (i := 326) (by decide +kernel) (by decide +kernel)
theorem w_325 : Cond.selects RX5 yX5_as yX5_as ∈ Tw := tw_of (i := 325) (by decide +kernel) (by decide +kernel)
theorem w_324 : Cond.instanceMethod yX5_as ∈ Tw := tw_of (i := 324) (by decide +kernel) (by decide +kernel)
theorem mlL_57 : MLv RL 57 kX5_as 2 := ⟨⟨w_323, w_1, w_326, by decide, by decide, by decide +kernel⟩, w_324, w_325⟩
theorem w_327 : Cond.methodLink RX5 163 yX4_isUnder ∈ Tw := tw_of (i := 327) (by decide +kernel) (by decide +kernel)
theorem w_329 : Cond.code yX4_isUnder cX4_isUnder 4 (some .boolean) ∈ Tw := tw_of (i := 329) (by decide +kernel) (by decide +kernel)
theorem w_328 : Cond.static yX4_isUnder ∈ Tw := tw_of (i := 328) (by decide +kernel) (by decide +kernel)
theorem mlX5_163 : MLs RX5 163 kX4_isUnder 2 := ⟨⟨w_327, w_3, w_329, by decide, by decide, by decide +kernel⟩, w_328⟩
theorem w_331 : Cond.methodLink RL 61 yX5_step ∈ Tw := tw_of (i := 331) (by decide +kernel) (by decide +kernel)
theorem w_334 : Cond.code yX5_step cX5_step 3 (some .int) ∈ Tw := tw_of (i := 334) (by decide +kernel) (by decide +kernel)
theorem w_333 : Cond.selects RX5 yX5_step yX5_step ∈ Tw := tw_of (i := 333) (by decide +kernel) (by decide +kernel)
theorem w_332 : Cond.instanceMethod yX5_step ∈ Tw := tw_of (i := 332) (by decide +kernel) (by decide +kernel)
theorem mlL_61 : MLv RL 61 kX5_step 1 := ⟨⟨w_331, w_1, w_334, by decide, by decide, by decide +kernel⟩, w_332, w_333⟩
theorem w_335 : Cond.methodLink RX5 167 yX4_move ∈ Tw := tw_of (i := 335) (by decide +kernel) (by decide +kernel)
theorem w_338 : Cond.code yX4_move cX4_move 4 none ∈ Tw := tw_of (i := 338) (by decide +kernel) (by decide +kernel)
theorem w_337 : Cond.selects RX4 yX4_move yX4_move ∈ Tw := tw_of (i := 337) (by decide +kernel) (by decide +kernel)
theorem w_336 : Cond.instanceMethod yX4_move ∈ Tw := tw_of (i := 336) (by decide +kernel) (by decide +kernel)
theorem mlX5_167 : MLv RX5 167 kX4_move 1 := ⟨⟨w_335, w_3, w_338, by decide, by decide, by decide +kernel⟩, w_336, w_337⟩
theorem w_339 : Cond.methodLink RX4 24 yX0_goOn ∈ Tw := tw_of (i := 339) (by decide +kernel) (by decide +kernel)
theorem w_342 : Cond.code yX0_goOn cX0_goOn 3 (some .int) ∈ Tw := tw_of (i := 342) (by decide +kernel) (by decide +kernel)
theorem w_341 : Cond.selects RX0 yX0_goOn yX0_goOn ∈ Tw := tw_of (i := 341) (by decide +kernel) (by decide +kernel)
theorem w_340 : Cond.instanceMethod yX0_goOn ∈ Tw := tw_of (i := 340) (by decide +kernel) (by decide +kernel)
theorem mlX4_24 : MLv RX4 24 kX0_goOn 1 := ⟨⟨w_339, w_2, w_342, by decide, by decide, by decide +kernel⟩, w_340, w_341⟩
theorem w_346 : Cond.methodLink RX4 30 yX4_quartersAtBump ∈ Tw := tw_of (i := 346) (by decide +kernel) (by decide +kernel)
theorem w_348 : Cond.code yX4_quartersAtBump cX4_quartersAtBump 1 (some .int) ∈ Tw := tw_of (i := 348) (by decide +kernel) (by decide +kernel)
theorem w_347 : Cond.static yX4_quartersAtBump ∈ Tw := tw_of (i := 347) (by decide +kernel) (by decide +kernel)
theorem mlX4_30 : MLs RX4 30 kX4_quartersAtBump 1 := ⟨⟨w_346, w_3, w_348, by decide, by decide, by decide +kernel⟩, w_347⟩
theorem w_351 : Cond.methodLink RX4 40 yX0_roughOf ∈ Tw := tw_of (i := 351) (by decide +kernel) (by decide +kernel)
theorem mlX4_40 : MLv RX4 40 kX0_roughOf 1 := ⟨⟨w_351, w_2, w_215, by decide, by decide, by decide +kernel⟩, w_213, w_214⟩
theorem w_352 : Cond.methodLink RX4 46 yX4_quartersOnComing ∈ Tw := tw_of (i := 352) (by decide +kernel) (by decide +kernel)
theorem w_354 : Cond.code yX4_quartersOnComing cX4_quartersOnComing 3 (some .int) ∈ Tw := tw_of (i := 354) (by decide +kernel) (by decide +kernel)
theorem w_353 : Cond.static yX4_quartersOnComing ∈ Tw := tw_of (i := 353) (by decide +kernel) (by decide +kernel)
theorem mlX4_46 : MLs RX4 46 kX4_quartersOnComing 3 := ⟨⟨w_352, w_3, w_354, by decide, by decide, by decide +kernel⟩, w_353⟩
theorem w_355 : Cond.methodLink RL 65 yX5_steps ∈ Tw := tw_of (i := 355) (by decide +kernel) (by decide +kernel)
theorem w_358 : Cond.code yX5_steps cX5_steps 3 (some .int) ∈ Tw := tw_of (i := 358) (by decide +kernel) (by decide +kernel)
theorem w_357 : Cond.selects RX5 yX5_steps yX5_steps ∈ Tw := tw_of (i := 357) (by decide +kernel) (by decide +kernel)
theorem w_356 : Cond.instanceMethod yX5_steps ∈ Tw := tw_of (i := 356) (by decide +kernel) (by decide +kernel)
theorem mlL_65 : MLv RL 65 kX5_steps 1 := ⟨⟨w_355, w_1, w_358, by decide, by decide, by decide +kernel⟩, w_356, w_357⟩
theorem w_359 : Cond.methodLink RX5 171 yX4_moveOften ∈ Tw := tw_of (i := 359) (by decide +kernel) (by decide +kernel)
theorem w_362 : Cond.code yX4_moveOften cX4_moveOften 4 none ∈ Tw := tw_of (i := 362) (by decide +kernel) (by decide +kernel)
theorem w_361 : Cond.selects RX4 yX4_moveOften yX4_moveOften ∈ Tw := tw_of (i := 361) (by decide +kernel) (by decide +kernel)
theorem w_360 : Cond.instanceMethod yX4_moveOften ∈ Tw := tw_of (i := 360) (by decide +kernel) (by decide +kernel)
theorem mlX5_171 : MLv RX5 171 kX4_moveOften 2 := ⟨⟨w_359, w_3, w_362, by decide, by decide, by decide +kernel⟩, w_360, w_361⟩
theorem w_363 : Cond.methodLink RX4 50 yX4_move ∈ Tw := tw_of (i := 363) (by decide +kernel) (by decide +kernel)
theorem mlX4_50 : MLv RX4 50 kX4_move 1 := ⟨⟨w_363, w_3, w_338, by decide, by decide, by decide +kernel⟩, w_336, w_337⟩
theorem w_364 : Cond.methodLink RX5 175 yX0_milesOfAll ∈ Tw := tw_of (i := 364) (by decide +kernel) (by decide +kernel)
theorem w_367 : Cond.code yX0_milesOfAll cX0_milesOfAll 3 (some .int) ∈ Tw := tw_of (i := 367) (by decide +kernel) (by decide +kernel)
theorem w_366 : Cond.selects RX0 yX0_milesOfAll yX0_milesOfAll ∈ Tw := tw_of (i := 366) (by decide +kernel) (by decide +kernel)
theorem w_365 : Cond.instanceMethod yX0_milesOfAll ∈ Tw := tw_of (i := 365) (by decide +kernel) (by decide +kernel)
theorem mlX5_175 : MLv RX5 175 kX0_milesOfAll 0 := ⟨⟨w_364, w_2, w_367, by decide, by decide, by decide +kernel⟩, w_365, w_366⟩
theorem w_368 : Cond.methodLink RL 69 yX5_on ∈ Tw := tw_of (i := 368) (by decide +kernel) (by decide +kernel)
theorem w_371 : Cond.code yX5_on cX5_on 4 (some .int) ∈ Tw := tw_of (i := 371) (by decide +kernel) (by decide +kernel)
theorem w_370 : Cond.selects RX5 yX5_on yX5_on ∈ Tw := tw_of (i := 370) (by decide +kernel) (by decide +kernel)
theorem w_369 : Cond.instanceMethod yX5_on ∈ Tw := tw_of (i := 369) (by decide +kernel) (by decide +kernel)
theorem mlL_69 : MLv RL 69 kX5_on 3 := ⟨⟨w_368, w_1, w_371, by decide, by decide, by decide +kernel⟩, w_369, w_370⟩
theorem w_372 : Cond.methodLink RX5 179 yX5_isStepsOn ∈ Tw := tw_of (i := 372) (by decide +kernel) (by decide +kernel)
theorem w_374 : Cond.code yX5_isStepsOn cX5_isStepsOn 1 (some .boolean) ∈ Tw := tw_of (i := 374) (by decide +kernel) (by decide +kernel)
theorem w_373 : Cond.static yX5_isStepsOn ∈ Tw := tw_of (i := 373) (by decide +kernel) (by decide +kernel)
theorem mlX5_179 : MLs RX5 179 kX5_isStepsOn 1 := ⟨⟨w_372, w_1, w_374, by decide, by decide, by decide +kernel⟩, w_373⟩
theorem w_375 : Cond.methodLink RX5 182 yX4_become ∈ Tw := tw_of (i := 375) (by decide +kernel) (by decide +kernel)
theorem w_378 : Cond.code yX4_become cX4_become 2 none ∈ Tw := tw_of (i := 378) (by decide +kernel) (by decide +kernel)
theorem w_377 : Cond.selects RX4 yX4_become yX4_become ∈ Tw := tw_of (i := 377) (by decide +kernel) (by decide +kernel)
theorem w_376 : Cond.instanceMethod yX4_become ∈ Tw := tw_of (i := 376) (by decide +kernel) (by decide +kernel)
theorem mlX5_182 : MLv RX5 182 kX4_become 1 := ⟨⟨w_375, w_3, w_378, by decide, by decide, by decide +kernel⟩, w_376, w_377⟩
theorem w_379 : Cond.methodLink RL 73 yX5_when ∈ Tw := tw_of (i := 379) (by decide +kernel) (by decide +kernel)
theorem w_382 : Cond.code yX5_when cX5_when 4 (some .int) ∈ Tw := tw_of (i := 382) (by decide +kernel) (by decide +kernel)
theorem w_381 : Cond.selects RX5 yX5_when yX5_when ∈ Tw := tw_of (i := 381) (by decide +kernel) (by decide +kernel)
theorem w_380 : Cond.instanceMethod yX5_when ∈ Tw := tw_of (i := 380) (by decide +kernel) (by decide +kernel)
theorem mlL_73 : MLv RL 73 kX5_when 2 := ⟨⟨w_379, w_1, w_382, by decide, by decide, by decide +kernel⟩, w_380, w_381⟩
theorem w_383 : Cond.methodLink RL 77 yX5_back ∈ Tw := tw_of (i := 383) (by decide +kernel) (by decide +kernel)
theorem w_386 : Cond.code yX5_back cX5_back 4 (some .int) ∈ Tw := tw_of (i := 386) (by decide +kernel) (by decide +kernel)
theorem w_385 : Cond.selects RX5 yX5_back yX5_back ∈ Tw := tw_of (i := 385) (by decide +kernel) (by decide +kernel)
theorem w_384 : Cond.instanceMethod yX5_back ∈ Tw := tw_of (i := 384) (by decide +kernel) (by decide +kernel)
theorem mlL_77 : MLv RL 77 kX5_back 1 := ⟨⟨w_383, w_1, w_386, by decide, by decide, by decide +kernel⟩, w_384, w_385⟩
theorem w_387 : Cond.methodLink RL 81 yX5_meet ∈ Tw := tw_of (i := 387) (by decide +kernel) (by decide +kernel)
theorem w_390 : Cond.code yX5_meet cX5_meet 4 (some .int) ∈ Tw := tw_of (i := 390) (by decide +kernel) (by decide +kernel)
theorem w_389 : Cond.selects RX5 yX5_meet yX5_meet ∈ Tw := tw_of (i := 389) (by decide +kernel) (by decide +kernel)
theorem w_388 : Cond.instanceMethod yX5_meet ∈ Tw := tw_of (i := 388) (by decide +kernel) (by decide +kernel)
theorem mlL_81 : MLv RL 81 kX5_meet 2 := ⟨⟨w_387, w_1, w_390, by decide, by decide, by decide +kernel⟩, w_388, w_389⟩
theorem w_391 : Cond.methodLink RL 85 yX5_spares ∈ Tw := tw_of (i := 391) (by decide +kernel) (by decide +kernel)
theorem w_394 : Cond.code yX5_spares cX5_spares 5 (some .int) ∈ Tw := tw_of (i := 394) (by decide +kernel) (by decide +kernel)
theorem w_393 : Cond.selects RX5 yX5_spares yX5_spares ∈ Tw := tw_of (i := 393) (by decide +kernel) (by decide +kernel)
theorem w_392 : Cond.instanceMethod yX5_spares ∈ Tw := tw_of (i := 392) (by decide +kernel) (by decide +kernel)
theorem mlL_85 : MLv RL 85 kX5_spares 1 := ⟨⟨w_391, w_1, w_394, by decide, by decide, by decide +kernel⟩, w_392, w_393⟩
theorem w_395 : Cond.methodLink RL 89 yX5_closes ∈ Tw := tw_of (i := 395) (by decide +kernel) (by decide +kernel)
theorem w_398 : Cond.code yX5_closes cX5_closes 6 (some .int) ∈ Tw := tw_of (i := 398) (by decide +kernel) (by decide +kernel)
theorem w_397 : Cond.selects RX5 yX5_closes yX5_closes ∈ Tw := tw_of (i := 397) (by decide +kernel) (by decide +kernel)
theorem w_396 : Cond.instanceMethod yX5_closes ∈ Tw := tw_of (i := 396) (by decide +kernel) (by decide +kernel)
theorem mlL_89 : MLv RL 89 kX5_closes 2 := ⟨⟨w_395, w_1, w_398, by decide, by decide, by decide +kernel⟩, w_396, w_397⟩
theorem w_399 : Cond.methodLink RX5 187 yX0_goOn ∈ Tw := tw_of (i := 399) (by decide +kernel) (by decide +kernel)
theorem mlX5_187 : MLv RX5 187 kX0_goOn 1 := ⟨⟨w_399, w_2, w_342, by decide, by decide, by decide +kernel⟩, w_340, w_341⟩
theorem w_400 : Cond.methodLink RL 93 yX5_bumps ∈ Tw := tw_of (i := 400) (by decide +kernel) (by decide +kernel)
theorem w_403 : Cond.code yX5_bumps cX5_bumps 5 (some .int) ∈ Tw := tw_of (i := 403) (by decide +kernel) (by decide +kernel)
theorem w_402 : Cond.selects RX5 yX5_bumps yX5_bumps ∈ Tw := tw_of (i := 402) (by decide +kernel) (by decide +kernel)
theorem w_401 : Cond.instanceMethod yX5_bumps ∈ Tw := tw_of (i := 401) (by decide +kernel) (by decide +kernel)
theorem mlL_93 : MLv RL 93 kX5_bumps 2 := ⟨⟨w_400, w_1, w_403, by decide, by decide, by decide +kernel⟩, w_401, w_402⟩
theorem w_404 : Cond.methodLink RL 97 yX5_square ∈ Tw := tw_of (i := 404) (by decide +kernel) (by decide +kernel)
theorem w_407 : Cond.code yX5_square cX5_square 7 (some .int) ∈ Tw := tw_of (i := 407) (by decide +kernel) (by decide +kernel)
theorem w_406 : Cond.selects RX5 yX5_square yX5_square ∈ Tw := tw_of (i := 406) (by decide +kernel) (by decide +kernel)
theorem w_405 : Cond.instanceMethod yX5_square ∈ Tw := tw_of (i := 405) (by decide +kernel) (by decide +kernel)
theorem mlL_97 : MLv RL 97 kX5_square 3 := ⟨⟨w_404, w_1, w_407, by decide, by decide, by decide +kernel⟩, w_405, w_406⟩
theorem w_408 : Cond.methodLink RX5 190 yX0_goOnOften ∈ Tw := tw_of (i := 408) (by decide +kernel) (by decide +kernel)
theorem w_411 : Cond.code yX0_goOnOften cX0_goOnOften 5 (some .int) ∈ Tw := tw_of (i := 411) (by decide +kernel) (by decide +kernel)
theorem w_410 : Cond.selects RX0 yX0_goOnOften yX0_goOnOften ∈ Tw := tw_of (i := 410) (by decide +kernel) (by decide +kernel)
theorem w_409 : Cond.instanceMethod yX0_goOnOften ∈ Tw := tw_of (i := 409) (by decide +kernel) (by decide +kernel)
theorem mlX5_190 : MLv RX5 190 kX0_goOnOften 2 := ⟨⟨w_408, w_2, w_411, by decide, by decide, by decide +kernel⟩, w_409, w_410⟩
theorem w_412 : Cond.methodLink RX0 77 yX0_goOn ∈ Tw := tw_of (i := 412) (by decide +kernel) (by decide +kernel)
theorem mlX0_77 : MLv RX0 77 kX0_goOn 1 := ⟨⟨w_412, w_2, w_342, by decide, by decide, by decide +kernel⟩, w_340, w_341⟩
theorem w_413 : Cond.methodLink RX5 193 yX5_turned ∈ Tw := tw_of (i := 413) (by decide +kernel) (by decide +kernel)
theorem w_345 : Cond.code yX5_turned cX5_turned 2 (some .int) ∈ Tw := tw_of (i := 345) (by decide +kernel) (by decide +kernel)
theorem w_344 : Cond.static yX5_turned ∈ Tw := tw_of (i := 344) (by decide +kernel) (by decide +kernel)
theorem mlX5_193 : MLs RX5 193 kX5_turned 2 := ⟨⟨w_413, w_1, w_345, by decide, by decide, by decide +kernel⟩, w_344⟩
theorem w_414 : Cond.methodLink RL 101 yX5_dine ∈ Tw := tw_of (i := 414) (by decide +kernel) (by decide +kernel)
theorem w_417 : Cond.code yX5_dine cX5_dine 8 (some .int) ∈ Tw := tw_of (i := 417) (by decide +kernel) (by decide +kernel)
theorem w_416 : Cond.selects RX5 yX5_dine yX5_dine ∈ Tw := tw_of (i := 416) (by decide +kernel) (by decide +kernel)
theorem w_415 : Cond.instanceMethod yX5_dine ∈ Tw := tw_of (i := 415) (by decide +kernel) (by decide +kernel)
theorem mlL_101 : MLv RL 101 kX5_dine 4 := ⟨⟨w_414, w_1, w_417, by decide, by decide, by decide +kernel⟩, w_415, w_416⟩
theorem w_418 : Cond.methodLink RL 105 yX5_sees ∈ Tw := tw_of (i := 418) (by decide +kernel) (by decide +kernel)
theorem w_421 : Cond.code yX5_sees cX5_sees 3 (some .int) ∈ Tw := tw_of (i := 421) (by decide +kernel) (by decide +kernel)
theorem w_420 : Cond.selects RX5 yX5_sees yX5_sees ∈ Tw := tw_of (i := 420) (by decide +kernel) (by decide +kernel)
theorem w_419 : Cond.instanceMethod yX5_sees ∈ Tw := tw_of (i := 419) (by decide +kernel) (by decide +kernel)
theorem mlL_105 : MLv RL 105 kX5_sees 2 := ⟨⟨w_418, w_1, w_421, by decide, by decide, by decide +kernel⟩, w_419, w_420⟩
theorem w_422 : Cond.methodLink RX5 196 yX0_seenFrom ∈ Tw := tw_of (i := 422) (by decide +kernel) (by decide +kernel)
theorem w_425 : Cond.code yX0_seenFrom cX0_seenFrom 5 (some .int) ∈ Tw := tw_of (i := 425) (by decide +kernel) (by decide +kernel)
theorem w_424 : Cond.selects RX0 yX0_seenFrom yX0_seenFrom ∈ Tw := tw_of (i := 424) (by decide +kernel) (by decide +kernel)
theorem w_423 : Cond.instanceMethod yX0_seenFrom ∈ Tw := tw_of (i := 423) (by decide +kernel) (by decide +kernel)
theorem mlX5_196 : MLv RX5 196 kX0_seenFrom 1 := ⟨⟨w_422, w_2, w_425, by decide, by decide, by decide +kernel⟩, w_423, w_424⟩
theorem w_426 : Cond.methodLink RL 109 yX5_twice ∈ Tw := tw_of (i := 426) (by decide +kernel) (by decide +kernel)
theorem w_429 : Cond.code yX5_twice cX5_twice 6 (some .int) ∈ Tw := tw_of (i := 429) (by decide +kernel) (by decide +kernel)
theorem w_428 : Cond.selects RX5 yX5_twice yX5_twice ∈ Tw := tw_of (i := 428) (by decide +kernel) (by decide +kernel)
theorem w_427 : Cond.instanceMethod yX5_twice ∈ Tw := tw_of (i := 427) (by decide +kernel) (by decide +kernel)
theorem mlL_109 : MLv RL 109 kX5_twice 1 := ⟨⟨w_426, w_1, w_429, by decide, by decide, by decide +kernel⟩, w_427, w_428⟩
theorem w_430 : Cond.methodLink RX5 199 yJ6_bitCount_0f7a4 ∈ Tw := tw_of (i := 430) (by decide +kernel) (by decide +kernel)
theorem w_8 : Cond.initialized RJ6 ∈ Tw := tw_of (i := 8) (by decide +kernel) (by decide +kernel)
theorem w_432 : Cond.code yJ6_bitCount_0f7a4 cJ6_bitCount_0f7a4 1 (some .int) ∈ Tw := tw_of (i := 432) (by decide +kernel) (by decide +kernel)
theorem w_431 : Cond.static yJ6_bitCount_0f7a4 ∈ Tw := tw_of (i := 431) (by decide +kernel) (by decide +kernel)
theorem mlX5_199 : MLs RX5 199 kJ6_bitCount_0f7a4 1 := ⟨⟨w_430, w_8, w_432, by decide, by decide, by decide +kernel⟩, w_431⟩
theorem w_436 : Cond.methodLink RL 113 yX5_about ∈ Tw := tw_of (i := 436) (by decide +kernel) (by decide +kernel)
theorem w_439 : Cond.code yX5_about cX5_about 5 (some .int) ∈ Tw := tw_of (i := 439) (by decide +kernel) (by decide +kernel)
theorem w_438 : Cond.selects RX5 yX5_about yX5_about ∈ Tw := tw_of (i := 438) (by decide +kernel) (by decide +kernel)
theorem w_437 : Cond.instanceMethod yX5_about ∈ Tw := tw_of (i := 437) (by decide +kernel) (by decide +kernel)
theorem mlL_113 : MLv RL 113 kX5_about 2 := ⟨⟨w_436, w_1, w_439, by decide, by decide, by decide +kernel⟩, w_437, w_438⟩
theorem w_440 : Cond.methodLink RX5 204 yX0_roundCorner ∈ Tw := tw_of (i := 440) (by decide +kernel) (by decide +kernel)
theorem w_443 : Cond.code yX0_roundCorner cX0_roundCorner 7 (some .long) ∈ Tw := tw_of (i := 443) (by decide +kernel) (by decide +kernel)
theorem w_442 : Cond.selects RX0 yX0_roundCorner yX0_roundCorner ∈ Tw := tw_of (i := 442) (by decide +kernel) (by decide +kernel)
theorem w_441 : Cond.instanceMethod yX0_roundCorner ∈ Tw := tw_of (i := 441) (by decide +kernel) (by decide +kernel)
theorem mlX5_204 : MLv RX5 204 kX0_roundCorner 1 := ⟨⟨w_440, w_2, w_443, by decide, by decide, by decide +kernel⟩, w_441, w_442⟩
theorem w_444 : Cond.methodLink RX5 208 yJ13_bitCount_95d88 ∈ Tw := tw_of (i := 444) (by decide +kernel) (by decide +kernel)
theorem w_9 : Cond.initialized RJ13 ∈ Tw := tw_of (i := 9) (by decide +kernel) (by decide +kernel)
theorem w_446 : Cond.code yJ13_bitCount_95d88 cJ13_bitCount_95d88 2 (some .int) ∈ Tw := tw_of (i := 446) (by decide +kernel) (by decide +kernel)
theorem w_445 : Cond.static yJ13_bitCount_95d88 ∈ Tw := tw_of (i := 445) (by decide +kernel) (by decide +kernel)
theorem mlX5_208 : MLs RX5 208 kJ13_bitCount_95d88 1 := ⟨⟨w_444, w_9, w_446, by decide, by decide, by decide +kernel⟩, w_445⟩
theorem w_450 : Cond.methodLink RL 117 yX5_corners ∈ Tw := tw_of (i := 450) (by decide +kernel) (by decide +kernel)
theorem w_453 : Cond.code yX5_corners cX5_corners 1 (some .int) ∈ Tw := tw_of (i := 453) (by decide +kernel) (by decide +kernel)
theorem w_452 : Cond.selects RX5 yX5_corners yX5_corners ∈ Tw := tw_of (i := 452) (by decide +kernel) (by decide +kernel)
theorem w_451 : Cond.instanceMethod yX5_corners ∈ Tw := tw_of (i := 451) (by decide +kernel) (by decide +kernel)
theorem mlL_117 : MLv RL 117 kX5_corners 0 := ⟨⟨w_450, w_1, w_453, by decide, by decide, by decide +kernel⟩, w_451, w_452⟩
theorem w_454 : Cond.methodLink RX5 213 yX0_sumOfCorners ∈ Tw := tw_of (i := 454) (by decide +kernel) (by decide +kernel)
theorem w_457 : Cond.code yX0_sumOfCorners cX0_sumOfCorners 9 (some .int) ∈ Tw := tw_of (i := 457) (by decide +kernel) (by decide +kernel)
theorem w_456 : Cond.selects RX0 yX0_sumOfCorners yX0_sumOfCorners ∈ Tw := tw_of (i := 456) (by decide +kernel) (by decide +kernel)
theorem w_455 : Cond.instanceMethod yX0_sumOfCorners ∈ Tw := tw_of (i := 455) (by decide +kernel) (by decide +kernel)
theorem mlX5_213 : MLv RX5 213 kX0_sumOfCorners 2 := ⟨⟨w_454, w_2, w_457, by decide, by decide, by decide +kernel⟩, w_455, w_456⟩
theorem w_458 : Cond.methodLink RX0 80 yX0_roundCorner ∈ Tw := tw_of (i := 458) (by decide +kernel) (by decide +kernel)
theorem mlX0_80 : MLv RX0 80 kX0_roundCorner 1 := ⟨⟨w_458, w_2, w_443, by decide, by decide, by decide +kernel⟩, w_441, w_442⟩
theorem w_459 : Cond.methodLink RX0 84 yJ13_bitCount_95d88 ∈ Tw := tw_of (i := 459) (by decide +kernel) (by decide +kernel)
theorem mlX0_84 : MLs RX0 84 kJ13_bitCount_95d88 1 := ⟨⟨w_459, w_9, w_446, by decide, by decide, by decide +kernel⟩, w_445⟩
theorem w_460 : Cond.methodLink RL 122 yX5_excess ∈ Tw := tw_of (i := 460) (by decide +kernel) (by decide +kernel)
theorem w_463 : Cond.code yX5_excess cX5_excess 1 (some .int) ∈ Tw := tw_of (i := 463) (by decide +kernel) (by decide +kernel)
theorem w_462 : Cond.selects RX5 yX5_excess yX5_excess ∈ Tw := tw_of (i := 462) (by decide +kernel) (by decide +kernel)
theorem w_461 : Cond.instanceMethod yX5_excess ∈ Tw := tw_of (i := 461) (by decide +kernel) (by decide +kernel)
theorem mlL_122 : MLv RL 122 kX5_excess 0 := ⟨⟨w_460, w_1, w_463, by decide, by decide, by decide +kernel⟩, w_461, w_462⟩
theorem w_464 : Cond.methodLink RL 126 yX5_bent ∈ Tw := tw_of (i := 464) (by decide +kernel) (by decide +kernel)
theorem w_467 : Cond.code yX5_bent cX5_bent 5 (some .int) ∈ Tw := tw_of (i := 467) (by decide +kernel) (by decide +kernel)
theorem w_466 : Cond.selects RX5 yX5_bent yX5_bent ∈ Tw := tw_of (i := 466) (by decide +kernel) (by decide +kernel)
theorem w_465 : Cond.instanceMethod yX5_bent ∈ Tw := tw_of (i := 465) (by decide +kernel) (by decide +kernel)
theorem mlL_126 : MLv RL 126 kX5_bent 0 := ⟨⟨w_464, w_1, w_467, by decide, by decide, by decide +kernel⟩, w_465, w_466⟩
theorem w_468 : Cond.methodLink RX5 216 yX0_ways ∈ Tw := tw_of (i := 468) (by decide +kernel) (by decide +kernel)
theorem mlX5_216 : MLv RX5 216 kX0_ways 0 := ⟨⟨w_468, w_2, w_232, by decide, by decide, by decide +kernel⟩, w_230, w_231⟩
theorem w_469 : Cond.methodLink RL 130 yX5_parts ∈ Tw := tw_of (i := 469) (by decide +kernel) (by decide +kernel)
theorem w_472 : Cond.code yX5_parts cX5_parts 4 (some .int) ∈ Tw := tw_of (i := 472) (by decide +kernel) (by decide +kernel)
theorem w_471 : Cond.selects RX5 yX5_parts yX5_parts ∈ Tw := tw_of (i := 471) (by decide +kernel) (by decide +kernel)
theorem w_470 : Cond.instanceMethod yX5_parts ∈ Tw := tw_of (i := 470) (by decide +kernel) (by decide +kernel)
theorem mlL_130 : MLv RL 130 kX5_parts 0 := ⟨⟨w_469, w_1, w_472, by decide, by decide, by decide +kernel⟩, w_470, w_471⟩
theorem w_473 : Cond.methodLink RX5 219 yX0_spread ∈ Tw := tw_of (i := 473) (by decide +kernel) (by decide +kernel)
theorem w_476 : Cond.code yX0_spread cX0_spread 9 none ∈ Tw := tw_of (i := 476) (by decide +kernel) (by decide +kernel)
theorem w_475 : Cond.selects RX0 yX0_spread yX0_spread ∈ Tw := tw_of (i := 475) (by decide +kernel) (by decide +kernel)
theorem w_474 : Cond.instanceMethod yX0_spread ∈ Tw := tw_of (i := 474) (by decide +kernel) (by decide +kernel)
theorem mlX5_219 : MLv RX5 219 kX0_spread 3 := ⟨⟨w_473, w_2, w_476, by decide, by decide, by decide +kernel⟩, w_474, w_475⟩
theorem w_478 : Cond.methodLink RX0 91 yJ7_fill_53178 ∈ Tw := tw_of (i := 478) (by decide +kernel) (by decide +kernel)
theorem w_10 : Cond.initialized RJ7 ∈ Tw := tw_of (i := 10) (by decide +kernel) (by decide +kernel)
theorem w_480 : Cond.code yJ7_fill_53178 cJ7_fill_53178 4 none ∈ Tw := tw_of (i := 480) (by decide +kernel) (by decide +kernel)
theorem w_479 : Cond.static yJ7_fill_53178 ∈ Tw := tw_of (i := 479) (by decide +kernel) (by decide +kernel)
theorem mlX0_91 : MLs RX0 91 kJ7_fill_53178 2 := ⟨⟨w_478, w_10, w_480, by decide, by decide, by decide +kernel⟩, w_479⟩
theorem w_481 : Cond.methodLink RX0 97 yX0_lower ∈ Tw := tw_of (i := 481) (by decide +kernel) (by decide +kernel)
theorem w_483 : Cond.code yX0_lower cX0_lower 3 (some .boolean) ∈ Tw := tw_of (i := 483) (by decide +kernel) (by decide +kernel)
theorem w_482 : Cond.static yX0_lower ∈ Tw := tw_of (i := 482) (by decide +kernel) (by decide +kernel)
theorem mlX0_97 : MLs RX0 97 kX0_lower 3 := ⟨⟨w_481, w_2, w_483, by decide, by decide, by decide +kernel⟩, w_482⟩
theorem w_484 : Cond.methodLink RX0 101 yX0_roughOf ∈ Tw := tw_of (i := 484) (by decide +kernel) (by decide +kernel)
theorem mlX0_101 : MLv RX0 101 kX0_roughOf 1 := ⟨⟨w_484, w_2, w_215, by decide, by decide, by decide +kernel⟩, w_213, w_214⟩
theorem w_486 : Cond.methodLink RX5 224 yX5_reached ∈ Tw := tw_of (i := 486) (by decide +kernel) (by decide +kernel)
theorem w_489 : Cond.code yX5_reached cX5_reached 4 (some .int) ∈ Tw := tw_of (i := 489) (by decide +kernel) (by decide +kernel)
theorem ws_mlX5_224 : Cond.selects RX5 yX5_reached yX5_reached ∈ Tw := tw_sel (q := (⟨"BentPlain", "reached", "(I)I"⟩, 13)) (i := 2) (by decide +kernel)
theorem w_488 : Cond.instanceMethod yX5_reached ∈ Tw := tw_of (i := 488) (by decide +kernel) (by decide +kernel)
theorem mlX5_224 : MLv RX5 224 kX5_reached 1 := ⟨⟨w_486, w_1, w_489, by decide, by decide, by decide +kernel⟩, w_488, ws_mlX5_224⟩
theorem w_490 : Cond.methodLink RL 134 yX5_far ∈ Tw := tw_of (i := 490) (by decide +kernel) (by decide +kernel)
theorem w_493 : Cond.code yX5_far cX5_far 3 (some .int) ∈ Tw := tw_of (i := 493) (by decide +kernel) (by decide +kernel)
theorem w_492 : Cond.selects RX5 yX5_far yX5_far ∈ Tw := tw_of (i := 492) (by decide +kernel) (by decide +kernel)
theorem w_491 : Cond.instanceMethod yX5_far ∈ Tw := tw_of (i := 491) (by decide +kernel) (by decide +kernel)
theorem mlL_134 : MLv RL 134 kX5_far 2 := ⟨⟨w_490, w_1, w_493, by decide, by decide, by decide +kernel⟩, w_491, w_492⟩
theorem w_494 : Cond.methodLink RX5 227 yX5_least ∈ Tw := tw_of (i := 494) (by decide +kernel) (by decide +kernel)
theorem w_497 : Cond.code yX5_least cX5_least 5 (some .int) ∈ Tw := tw_of (i := 497) (by decide +kernel) (by decide +kernel)
theorem ws_mlX5_227 : Cond.selects RX5 yX5_least yX5_least ∈ Tw := tw_sel (q := (⟨"BentPlain", "least", "(IIZ)I"⟩, 13)) (i := 3) (by decide +kernel)
theorem w_496 : Cond.instanceMethod yX5_least ∈ Tw := tw_of (i := 496) (by decide +kernel) (by decide +kernel)
theorem mlX5_227 : MLv RX5 227 kX5_least 3 := ⟨⟨w_494, w_1, w_497, by decide, by decide, by decide +kernel⟩, w_496, ws_mlX5_227⟩
theorem w_499 : Cond.methodLink RL 138 yX5_smooth ∈ Tw := tw_of (i := 499) (by decide +kernel) (by decide +kernel)
theorem w_502 : Cond.code yX5_smooth cX5_smooth 3 (some .int) ∈ Tw := tw_of (i := 502) (by decide +kernel) (by decide +kernel)
theorem w_501 : Cond.selects RX5 yX5_smooth yX5_smooth ∈ Tw := tw_of (i := 501) (by decide +kernel) (by decide +kernel)
theorem w_500 : Cond.instanceMethod yX5_smooth ∈ Tw := tw_of (i := 500) (by decide +kernel) (by decide +kernel)
theorem mlL_138 : MLv RL 138 kX5_smooth 2 := ⟨⟨w_499, w_1, w_502, by decide, by decide, by decide +kernel⟩, w_500, w_501⟩
theorem w_503 : Cond.methodLink RL 142 yX5_turns ∈ Tw := tw_of (i := 503) (by decide +kernel) (by decide +kernel)
theorem w_506 : Cond.code yX5_turns cX5_turns 6 (some .int) ∈ Tw := tw_of (i := 506) (by decide +kernel) (by decide +kernel)
theorem w_505 : Cond.selects RX5 yX5_turns yX5_turns ∈ Tw := tw_of (i := 505) (by decide +kernel) (by decide +kernel)
theorem w_504 : Cond.instanceMethod yX5_turns ∈ Tw := tw_of (i := 504) (by decide +kernel) (by decide +kernel)
theorem mlL_142 : MLv RL 142 kX5_turns 3 := ⟨⟨w_503, w_1, w_506, by decide, by decide, by decide +kernel⟩, w_504, w_505⟩
theorem w_507 : Cond.methodLink RX5 231 yX0_spreadTurning ∈ Tw := tw_of (i := 507) (by decide +kernel) (by decide +kernel)
theorem w_510 : Cond.code yX0_spreadTurning cX0_spreadTurning 6 none ∈ Tw := tw_of (i := 510) (by decide +kernel) (by decide +kernel)
theorem w_509 : Cond.selects RX0 yX0_spreadTurning yX0_spreadTurning ∈ Tw := tw_of (i := 509) (by decide +kernel) (by decide +kernel)
theorem w_508 : Cond.instanceMethod yX0_spreadTurning ∈ Tw := tw_of (i := 508) (by decide +kernel) (by decide +kernel)
theorem mlX5_231 : MLv RX5 231 kX0_spreadTurning 2 := ⟨⟨w_507, w_2, w_510, by decide, by decide, by decide +kernel⟩, w_508, w_509⟩
theorem w_511 : Cond.methodLink RX5 236 yJ9_min_7cf53 ∈ Tw := tw_of (i := 511) (by decide +kernel) (by decide +kernel)
theorem w_11 : Cond.initialized RJ9 ∈ Tw := tw_of (i := 11) (by decide +kernel) (by decide +kernel)
theorem w_513 : Cond.code yJ9_min_7cf53 cJ9_min_7cf53 2 (some .int) ∈ Tw := tw_of (i := 513) (by decide +kernel) (by decide +kernel)
theorem w_512 : Cond.static yJ9_min_7cf53 ∈ Tw := tw_of (i := 512) (by decide +kernel) (by decide +kernel)
theorem mlX5_236 : MLs RX5 236 kJ9_min_7cf53 2 := ⟨⟨w_511, w_11, w_513, by decide, by decide, by decide +kernel⟩, w_512⟩
theorem w_514 : Cond.methodLink RL 146 yX5_within ∈ Tw := tw_of (i := 514) (by decide +kernel) (by decide +kernel)
theorem w_517 : Cond.code yX5_within cX5_within 3 (some .int) ∈ Tw := tw_of (i := 517) (by decide +kernel) (by decide +kernel)
theorem w_516 : Cond.selects RX5 yX5_within yX5_within ∈ Tw := tw_of (i := 516) (by decide +kernel) (by decide +kernel)
theorem w_515 : Cond.instanceMethod yX5_within ∈ Tw := tw_of (i := 515) (by decide +kernel) (by decide +kernel)
theorem mlL_146 : MLv RL 146 kX5_within 2 := ⟨⟨w_514, w_1, w_517, by decide, by decide, by decide +kernel⟩, w_515, w_516⟩
theorem w_518 : Cond.methodLink RL 150 yX5_mends ∈ Tw := tw_of (i := 518) (by decide +kernel) (by decide +kernel)
theorem w_521 : Cond.code yX5_mends cX5_mends 8 (some .int) ∈ Tw := tw_of (i := 521) (by decide +kernel) (by decide +kernel)
theorem w_520 : Cond.selects RX5 yX5_mends yX5_mends ∈ Tw := tw_of (i := 520) (by decide +kernel) (by decide +kernel)
theorem w_519 : Cond.instanceMethod yX5_mends ∈ Tw := tw_of (i := 519) (by decide +kernel) (by decide +kernel)
theorem mlL_150 : MLv RL 150 kX5_mends 2 := ⟨⟨w_518, w_1, w_521, by decide, by decide, by decide +kernel⟩, w_519, w_520⟩
theorem w_522 : Cond.methodLink RX5 241 yX5_farThrough ∈ Tw := tw_of (i := 522) (by decide +kernel) (by decide +kernel)
theorem w_525 : Cond.code yX5_farThrough cX5_farThrough 5 (some .int) ∈ Tw := tw_of (i := 525) (by decide +kernel) (by decide +kernel)
theorem ws_mlX5_241 : Cond.selects RX5 yX5_farThrough yX5_farThrough ∈ Tw := tw_sel (q := (⟨"BentPlain", "farThrough", "(II)I"⟩, 13)) (i := 4) (by decide +kernel)
theorem w_524 : Cond.instanceMethod yX5_farThrough ∈ Tw := tw_of (i := 524) (by decide +kernel) (by decide +kernel)
theorem mlX5_241 : MLv RX5 241 kX5_farThrough 2 := ⟨⟨w_522, w_1, w_525, by decide, by decide, by decide +kernel⟩, w_524, ws_mlX5_241⟩
theorem w_526 : Cond.methodLink RL 154 yX5_feed ∈ Tw := tw_of (i := 526) (by decide +kernel) (by decide +kernel)
theorem w_529 : Cond.code yX5_feed cX5_feed 4 (some .int) ∈ Tw := tw_of (i := 529) (by decide +kernel) (by decide +kernel)
theorem w_528 : Cond.selects RX5 yX5_feed yX5_feed ∈ Tw := tw_of (i := 528) (by decide +kernel) (by decide +kernel)
theorem w_527 : Cond.instanceMethod yX5_feed ∈ Tw := tw_of (i := 527) (by decide +kernel) (by decide +kernel)
theorem mlL_154 : MLv RL 154 kX5_feed 2 := ⟨⟨w_526, w_1, w_529, by decide, by decide, by decide +kernel⟩, w_527, w_528⟩
theorem w_530 : Cond.methodLink RX5 247 yX2_add ∈ Tw := tw_of (i := 530) (by decide +kernel) (by decide +kernel)
theorem w_4 : Cond.initialized RX2 ∈ Tw := tw_of (i := 4) (by decide +kernel) (by decide +kernel)
theorem w_533 : Cond.code yX2_add cX2_add 2 none ∈ Tw := tw_of (i := 533) (by decide +kernel) (by decide +kernel)
theorem w_532 : Cond.selects RX2 yX2_add yX2_add ∈ Tw := tw_of (i := 532) (by decide +kernel) (by decide +kernel)
theorem w_531 : Cond.instanceMethod yX2_add ∈ Tw := tw_of (i := 531) (by decide +kernel) (by decide +kernel)
theorem mlX5_247 : MLv RX5 247 kX2_add 1 := ⟨⟨w_530, w_4, w_533, by decide, by decide, by decide +kernel⟩, w_531, w_532⟩
theorem w_534 : Cond.methodLink RL 158 yX5_wipe ∈ Tw := tw_of (i := 534) (by decide +kernel) (by decide +kernel)
theorem w_537 : Cond.code yX5_wipe cX5_wipe 2 (some .int) ∈ Tw := tw_of (i := 537) (by decide +kernel) (by decide +kernel)
theorem w_536 : Cond.selects RX5 yX5_wipe yX5_wipe ∈ Tw := tw_of (i := 536) (by decide +kernel) (by decide +kernel)
theorem w_535 : Cond.instanceMethod yX5_wipe ∈ Tw := tw_of (i := 535) (by decide +kernel) (by decide +kernel)
theorem mlL_158 : MLv RL 158 kX5_wipe 0 := ⟨⟨w_534, w_1, w_537, by decide, by decide, by decide +kernel⟩, w_535, w_536⟩
theorem w_538 : Cond.methodLink RL 162 yX5_plain ∈ Tw := tw_of (i := 538) (by decide +kernel) (by decide +kernel)
theorem w_541 : Cond.code yX5_plain cX5_plain 2 (some .int) ∈ Tw := tw_of (i := 541) (by decide +kernel) (by decide +kernel)
theorem w_540 : Cond.selects RX5 yX5_plain yX5_plain ∈ Tw := tw_of (i := 540) (by decide +kernel) (by decide +kernel)
theorem w_539 : Cond.instanceMethod yX5_plain ∈ Tw := tw_of (i := 539) (by decide +kernel) (by decide +kernel)
theorem mlL_162 : MLv RL 162 kX5_plain 0 := ⟨⟨w_538, w_1, w_541, by decide, by decide, by decide +kernel⟩, w_539, w_540⟩
theorem w_542 : Cond.methodLink RX5 250 yX0_become ∈ Tw := tw_of (i := 542) (by decide +kernel) (by decide +kernel)
theorem w_545 : Cond.code yX0_become cX0_become 3 none ∈ Tw := tw_of (i := 545) (by decide +kernel) (by decide +kernel)
theorem w_544 : Cond.selects RX0 yX0_become yX0_become ∈ Tw := tw_of (i := 544) (by decide +kernel) (by decide +kernel)
theorem w_543 : Cond.instanceMethod yX0_become ∈ Tw := tw_of (i := 543) (by decide +kernel) (by decide +kernel)
theorem mlX5_250 : MLv RX5 250 kX0_become 1 := ⟨⟨w_542, w_2, w_545, by decide, by decide, by decide +kernel⟩, w_543, w_544⟩
theorem w_549 : Cond.methodLink RX0 38 yX4_become ∈ Tw := tw_of (i := 549) (by decide +kernel) (by decide +kernel)
theorem mlX0_38 : MLv RX0 38 kX4_become 1 := ⟨⟨w_549, w_3, w_378, by decide, by decide, by decide +kernel⟩, w_376, w_377⟩
theorem w_550 : Cond.methodLink RX5 252 yX3_tellAll ∈ Tw := tw_of (i := 550) (by decide +kernel) (by decide +kernel)
theorem w_5 : Cond.initialized RX3 ∈ Tw := tw_of (i := 5) (by decide +kernel) (by decide +kernel)
theorem w_553 : Cond.code yX3_tellAll cX3_tellAll 2 (some .int) ∈ Tw := tw_of (i := 553) (by decide +kernel) (by decide +kernel)
theorem w_552 : Cond.selects RX3 yX3_tellAll yX3_tellAll ∈ Tw := tw_of (i := 552) (by decide +kernel) (by decide +kernel)
theorem w_551 : Cond.instanceMethod yX3_tellAll ∈ Tw := tw_of (i := 551) (by decide +kernel) (by decide +kernel)
theorem mlX5_252 : MLv RX5 252 kX3_tellAll 0 := ⟨⟨w_550, w_5, w_553, by decide, by decide, by decide +kernel⟩, w_551, w_552⟩
theorem w_554 : Cond.methodLink RX3 19 yX2_begin ∈ Tw := tw_of (i := 554) (by decide +kernel) (by decide +kernel)
theorem w_557 : Cond.code yX2_begin cX2_begin 1 none ∈ Tw := tw_of (i := 557) (by decide +kernel) (by decide +kernel)
theorem w_556 : Cond.selects RX2 yX2_begin yX2_begin ∈ Tw := tw_of (i := 556) (by decide +kernel) (by decide +kernel)
theorem w_555 : Cond.instanceMethod yX2_begin ∈ Tw := tw_of (i := 555) (by decide +kernel) (by decide +kernel)
theorem mlX3_19 : MLv RX3 19 kX2_begin 0 := ⟨⟨w_554, w_4, w_557, by decide, by decide, by decide +kernel⟩, w_555, w_556⟩
theorem w_558 : Cond.methodLink RX2 22 yX2_advance ∈ Tw := tw_of (i := 558) (by decide +kernel) (by decide +kernel)
theorem w_561 : Cond.code yX2_advance cX2_advance 1 none ∈ Tw := tw_of (i := 561) (by decide +kernel) (by decide +kernel)
theorem w_560 : Cond.selects RX2 yX2_advance yX2_advance ∈ Tw := tw_of (i := 560) (by decide +kernel) (by decide +kernel)
theorem w_559 : Cond.instanceMethod yX2_advance ∈ Tw := tw_of (i := 559) (by decide +kernel) (by decide +kernel)
theorem mlX2_22 : MLv RX2 22 kX2_advance 0 := ⟨⟨w_558, w_4, w_561, by decide, by decide, by decide +kernel⟩, w_559, w_560⟩
theorem w_562 : Cond.methodLink RX2 31 yX2_isLetter ∈ Tw := tw_of (i := 562) (by decide +kernel) (by decide +kernel)
theorem w_564 : Cond.code yX2_isLetter cX2_isLetter 1 (some .boolean) ∈ Tw := tw_of (i := 564) (by decide +kernel) (by decide +kernel)
theorem w_563 : Cond.static yX2_isLetter ∈ Tw := tw_of (i := 563) (by decide +kernel) (by decide +kernel)
theorem mlX2_31 : MLs RX2 31 kX2_isLetter 1 := ⟨⟨w_562, w_4, w_564, by decide, by decide, by decide +kernel⟩, w_563⟩
theorem w_565 : Cond.methodLink RX2 38 yX2_isDigit ∈ Tw := tw_of (i := 565) (by decide +kernel) (by decide +kernel)
theorem w_567 : Cond.code yX2_isDigit cX2_isDigit 1 (some .boolean) ∈ Tw := tw_of (i := 567) (by decide +kernel) (by decide +kernel)
theorem w_566 : Cond.static yX2_isDigit ∈ Tw := tw_of (i := 566) (by decide +kernel) (by decide +kernel)
theorem mlX2_38 : MLs RX2 38 kX2_isDigit 1 := ⟨⟨w_565, w_4, w_567, by decide, by decide, by decide +kernel⟩, w_566⟩
theorem w_568 : Cond.methodLink RX2 41 yJ9_min_7cf53 ∈ Tw := tw_of (i := 568) (by decide +kernel) (by decide +kernel)
theorem mlX2_41 : MLs RX2 41 kJ9_min_7cf53 2 := ⟨⟨w_568, w_11, w_513, by decide, by decide, by decide +kernel⟩, w_512⟩
theorem w_569 : Cond.methodLink RX3 24 yX3_tellItem ∈ Tw := tw_of (i := 569) (by decide +kernel) (by decide +kernel)
theorem w_572 : Cond.code yX3_tellItem cX3_tellItem 1 (some .boolean) ∈ Tw := tw_of (i := 572) (by decide +kernel) (by decide +kernel)
theorem ws_mlX3_24 : Cond.selects RX3 yX3_tellItem yX3_tellItem ∈ Tw := tw_sel (q := (⟨"BentPlain$Teller", "tellItem", "()Z"⟩, 2)) (i := 5) (by decide +kernel)
theorem w_571 : Cond.instanceMethod yX3_tellItem ∈ Tw := tw_of (i := 571) (by decide +kernel) (by decide +kernel)
theorem mlX3_24 : MLv RX3 24 kX3_tellItem 0 := ⟨⟨w_569, w_5, w_572, by decide, by decide, by decide +kernel⟩, w_571, ws_mlX3_24⟩
theorem w_574 : Cond.methodLink RX3 40 yX2_isWord ∈ Tw := tw_of (i := 574) (by decide +kernel) (by decide +kernel)
theorem w_577 : Cond.code yX2_isWord cX2_isWord 3 (some .boolean) ∈ Tw := tw_of (i := 577) (by decide +kernel) (by decide +kernel)
theorem w_576 : Cond.selects RX2 yX2_isWord yX2_isWord ∈ Tw := tw_of (i := 576) (by decide +kernel) (by decide +kernel)
theorem w_575 : Cond.instanceMethod yX2_isWord ∈ Tw := tw_of (i := 575) (by decide +kernel) (by decide +kernel)
theorem mlX3_40 : MLv RX3 40 kX2_isWord 1 := ⟨⟨w_574, w_4, w_577, by decide, by decide, by decide +kernel⟩, w_575, w_576⟩
theorem w_578 : Cond.methodLink RX2 47 yJ0_length_8abf5 ∈ Tw := tw_of (i := 578) (by decide +kernel) (by decide +kernel)
theorem w_13 : Cond.initialized RJ0 ∈ Tw := tw_of (i := 13) (by decide +kernel) (by decide +kernel)
theorem w_581 : Cond.code yJ0_length_8abf5 cJ0_length_8abf5 1 (some .int) ∈ Tw := tw_of (i := 581) (by decide +kernel) (by decide +kernel)
theorem w_580 : Cond.selects RJ0 yJ0_length_8abf5 yJ0_length_8abf5 ∈ Tw := tw_of (i := 580) (by decide +kernel) (by decide +kernel)
theorem w_579 : Cond.instanceMethod yJ0_length_8abf5 ∈ Tw := tw_of (i := 579) (by decide +kernel) (by decide +kernel)
theorem mlX2_47 : MLv RX2 47 kJ0_length_8abf5 0 := ⟨⟨w_578, w_13, w_581, by decide, by decide, by decide +kernel⟩, w_579, w_580⟩
theorem w_582 : Cond.methodLink RJ0 335 yJ0_coder_7d493 ∈ Tw := tw_of (i := 582) (by decide +kernel) (by decide +kernel)
theorem w_585 : Cond.code yJ0_coder_7d493 cJ0_coder_7d493 1 (some .byte) ∈ Tw := tw_of (i := 585) (by decide +kernel) (by decide +kernel)
theorem w_584 : Cond.selects RJ0 yJ0_coder_7d493 yJ0_coder_7d493 ∈ Tw := tw_of (i := 584) (by decide +kernel) (by decide +kernel)
theorem w_583 : Cond.instanceMethod yJ0_coder_7d493 ∈ Tw := tw_of (i := 583) (by decide +kernel) (by decide +kernel)
theorem mlJ0_335 : MLv RJ0 335 kJ0_coder_7d493 0 := ⟨⟨w_582, w_13, w_585, by decide, by decide, by decide +kernel⟩, w_583, w_584⟩
theorem w_588 : Cond.methodLink RX2 52 yJ0_charAt_5068e ∈ Tw := tw_of (i := 588) (by decide +kernel) (by decide +kernel)
theorem w_591 : Cond.code yJ0_charAt_5068e cJ0_charAt_5068e 2 (some .char) ∈ Tw := tw_of (i := 591) (by decide +kernel) (by decide +kernel)
theorem w_590 : Cond.selects RJ0 yJ0_charAt_5068e yJ0_charAt_5068e ∈ Tw := tw_of (i := 590) (by decide +kernel) (by decide +kernel)
theorem w_589 : Cond.instanceMethod yJ0_charAt_5068e ∈ Tw := tw_of (i := 589) (by decide +kernel) (by decide +kernel)
theorem mlX2_52 : MLv RX2 52 kJ0_charAt_5068e 1 := ⟨⟨w_588, w_13, w_591, by decide, by decide, by decide +kernel⟩, w_589, w_590⟩
theorem w_592 : Cond.methodLink RJ0 492 yJ0_isLatin1_aae02 ∈ Tw := tw_of (i := 592) (by decide +kernel) (by decide +kernel)
theorem w_595 : Cond.code yJ0_isLatin1_aae02 cJ0_isLatin1_aae02 1 (some .boolean) ∈ Tw := tw_of (i := 595) (by decide +kernel) (by decide +kernel)
theorem w_594 : Cond.selects RJ0 yJ0_isLatin1_aae02 yJ0_isLatin1_aae02 ∈ Tw := tw_of (i := 594) (by decide +kernel) (by decide +kernel)
theorem w_593 : Cond.instanceMethod yJ0_isLatin1_aae02 ∈ Tw := tw_of (i := 593) (by decide +kernel) (by decide +kernel)
theorem mlJ0_492 : MLv RJ0 492 kJ0_isLatin1_aae02 0 := ⟨⟨w_592, w_13, w_595, by decide, by decide, by decide +kernel⟩, w_593, w_594⟩
theorem w_596 : Cond.methodLink RJ0 495 yJ1_charAt_3b067 ∈ Tw := tw_of (i := 596) (by decide +kernel) (by decide +kernel)
theorem w_14 : Cond.initialized RJ1 ∈ Tw := tw_of (i := 14) (by decide +kernel) (by decide +kernel)
theorem w_598 : Cond.code yJ1_charAt_3b067 cJ1_charAt_3b067 2 (some .char) ∈ Tw := tw_of (i := 598) (by decide +kernel) (by decide +kernel)
theorem w_597 : Cond.static yJ1_charAt_3b067 ∈ Tw := tw_of (i := 597) (by decide +kernel) (by decide +kernel)
theorem mlJ0_495 : MLs RJ0 495 kJ1_charAt_3b067 2 := ⟨⟨w_596, w_14, w_598, by decide, by decide, by decide +kernel⟩, w_597⟩
theorem w_599 : Cond.methodLink RJ1 9 yJ0_checkIndex_df160 ∈ Tw := tw_of (i := 599) (by decide +kernel) (by decide +kernel)
theorem w_601 : Cond.code yJ0_checkIndex_df160 cJ0_checkIndex_df160 2 none ∈ Tw := tw_of (i := 601) (by decide +kernel) (by decide +kernel)
theorem w_600 : Cond.static yJ0_checkIndex_df160 ∈ Tw := tw_of (i := 600) (by decide +kernel) (by decide +kernel)
theorem mlJ1_9 : MLs RJ1 9 kJ0_checkIndex_df160 2 := ⟨⟨w_599, w_13, w_601, by decide, by decide, by decide +kernel⟩, w_600⟩
theorem w_604 : Cond.methodLink RJ0 1059 yJ3_checkIndex_8e157 ∈ Tw := tw_of (i := 604) (by decide +kernel) (by decide +kernel)
theorem w_15 : Cond.initialized RJ3 ∈ Tw := tw_of (i := 15) (by decide +kernel) (by decide +kernel)
theorem w_606 : Cond.code yJ3_checkIndex_8e157 cJ3_checkIndex_8e157 3 (some .int) ∈ Tw := tw_of (i := 606) (by decide +kernel) (by decide +kernel)
theorem w_605 : Cond.static yJ3_checkIndex_8e157 ∈ Tw := tw_of (i := 605) (by decide +kernel) (by decide +kernel)
theorem mlJ0_1059 : MLs RJ0 1059 kJ3_checkIndex_8e157 3 := ⟨⟨w_604, w_15, w_606, by decide, by decide, by decide +kernel⟩, w_605⟩
theorem w_607 : Cond.methodLink RJ0 498 yJ2_charAt_3b067 ∈ Tw := tw_of (i := 607) (by decide +kernel) (by decide +kernel)
theorem w_16 : Cond.initialized RJ2 ∈ Tw := tw_of (i := 16) (by decide +kernel) (by decide +kernel)
theorem w_609 : Cond.code yJ2_charAt_3b067 cJ2_charAt_3b067 2 (some .char) ∈ Tw := tw_of (i := 609) (by decide +kernel) (by decide +kernel)
theorem w_608 : Cond.static yJ2_charAt_3b067 ∈ Tw := tw_of (i := 608) (by decide +kernel) (by decide +kernel)
theorem mlJ0_498 : MLs RJ0 498 kJ2_charAt_3b067 2 := ⟨⟨w_607, w_16, w_609, by decide, by decide, by decide +kernel⟩, w_608⟩
theorem w_610 : Cond.methodLink RJ2 67 yJ2_checkIndex_2214a ∈ Tw := tw_of (i := 610) (by decide +kernel) (by decide +kernel)
theorem w_612 : Cond.code yJ2_checkIndex_2214a cJ2_checkIndex_2214a 2 none ∈ Tw := tw_of (i := 612) (by decide +kernel) (by decide +kernel)
theorem w_611 : Cond.static yJ2_checkIndex_2214a ∈ Tw := tw_of (i := 611) (by decide +kernel) (by decide +kernel)
theorem mlJ2_67 : MLs RJ2 67 kJ2_checkIndex_2214a 2 := ⟨⟨w_610, w_16, w_612, by decide, by decide, by decide +kernel⟩, w_611⟩
theorem w_613 : Cond.methodLink RJ2 48 yJ2_length_9d52b ∈ Tw := tw_of (i := 613) (by decide +kernel) (by decide +kernel)
theorem w_615 : Cond.code yJ2_length_9d52b cJ2_length_9d52b 1 (some .int) ∈ Tw := tw_of (i := 615) (by decide +kernel) (by decide +kernel)
theorem w_614 : Cond.static yJ2_length_9d52b ∈ Tw := tw_of (i := 614) (by decide +kernel) (by decide +kernel)
theorem mlJ2_48 : MLs RJ2 48 kJ2_length_9d52b 1 := ⟨⟨w_613, w_16, w_615, by decide, by decide, by decide +kernel⟩, w_614⟩
theorem w_616 : Cond.methodLink RJ2 414 yJ0_checkIndex_df160 ∈ Tw := tw_of (i := 616) (by decide +kernel) (by decide +kernel)
theorem mlJ2_414 : MLs RJ2 414 kJ0_checkIndex_df160 2 := ⟨⟨w_616, w_13, w_601, by decide, by decide, by decide +kernel⟩, w_600⟩
theorem w_617 : Cond.methodLink RJ2 71 yJ2_getChar_3b067 ∈ Tw := tw_of (i := 617) (by decide +kernel) (by decide +kernel)
theorem w_619 : Cond.code yJ2_getChar_3b067 cJ2_getChar_3b067 2 (some .char) ∈ Tw := tw_of (i := 619) (by decide +kernel) (by decide +kernel)
theorem w_618 : Cond.static yJ2_getChar_3b067 ∈ Tw := tw_of (i := 618) (by decide +kernel) (by decide +kernel)
theorem mlJ2_71 : MLs RJ2 71 kJ2_getChar_3b067 2 := ⟨⟨w_617, w_16, w_619, by decide, by decide, by decide +kernel⟩, w_618⟩
theorem w_626 : Cond.methodLink RX3 44 yX3_tellField ∈ Tw := tw_of (i := 626) (by decide +kernel) (by decide +kernel)
theorem w_629 : Cond.code yX3_tellField cX3_tellField 2 (some .boolean) ∈ Tw := tw_of (i := 629) (by decide +kernel) (by decide +kernel)
theorem ws_mlX3_44 : Cond.selects RX3 yX3_tellField yX3_tellField ∈ Tw := tw_sel (q := (⟨"BentPlain$Teller", "tellField", "()Z"⟩, 2)) (i := 6) (by decide +kernel)
theorem w_628 : Cond.instanceMethod yX3_tellField ∈ Tw := tw_of (i := 628) (by decide +kernel) (by decide +kernel)
theorem mlX3_44 : MLv RX3 44 kX3_tellField 0 := ⟨⟨w_626, w_5, w_629, by decide, by decide, by decide +kernel⟩, w_628, ws_mlX3_44⟩
theorem w_630 : Cond.methodLink RX3 35 yX2_advance ∈ Tw := tw_of (i := 630) (by decide +kernel) (by decide +kernel)
theorem mlX3_35 : MLv RX3 35 kX2_advance 0 := ⟨⟨w_630, w_4, w_561, by decide, by decide, by decide +kernel⟩, w_559, w_560⟩
theorem w_632 : Cond.methodLink RX3 67 yX2_isNumberBelow ∈ Tw := tw_of (i := 632) (by decide +kernel) (by decide +kernel)
theorem w_635 : Cond.code yX2_isNumberBelow cX2_isNumberBelow 2 (some .boolean) ∈ Tw := tw_of (i := 635) (by decide +kernel) (by decide +kernel)
theorem w_634 : Cond.selects RX2 yX2_isNumberBelow yX2_isNumberBelow ∈ Tw := tw_of (i := 634) (by decide +kernel) (by decide +kernel)
theorem w_633 : Cond.instanceMethod yX2_isNumberBelow ∈ Tw := tw_of (i := 633) (by decide +kernel) (by decide +kernel)
theorem mlX3_67 : MLv RX3 67 kX2_isNumberBelow 1 := ⟨⟨w_632, w_4, w_635, by decide, by decide, by decide +kernel⟩, w_633, w_634⟩
theorem w_636 : Cond.methodLink RX3 74 yX0_addField ∈ Tw := tw_of (i := 636) (by decide +kernel) (by decide +kernel)
theorem mlX3_74 : MLv RX3 74 kX0_addField 1 := ⟨⟨w_636, w_2, w_200, by decide, by decide, by decide +kernel⟩, w_198, w_199⟩
theorem w_638 : Cond.methodLink RX3 49 yX3_tellGlue ∈ Tw := tw_of (i := 638) (by decide +kernel) (by decide +kernel)
theorem w_641 : Cond.code yX3_tellGlue cX3_tellGlue 3 (some .boolean) ∈ Tw := tw_of (i := 641) (by decide +kernel) (by decide +kernel)
theorem ws_mlX3_49 : Cond.selects RX3 yX3_tellGlue yX3_tellGlue ∈ Tw := tw_sel (q := (⟨"BentPlain$Teller", "tellGlue", "()Z"⟩, 2)) (i := 7) (by decide +kernel)
theorem w_640 : Cond.instanceMethod yX3_tellGlue ∈ Tw := tw_of (i := 640) (by decide +kernel) (by decide +kernel)
theorem mlX3_49 : MLv RX3 49 kX3_tellGlue 0 := ⟨⟨w_638, w_5, w_641, by decide, by decide, by decide +kernel⟩, w_640, ws_mlX3_49⟩
theorem w_642 : Cond.methodLink RX3 78 yX3_lookAtSide ∈ Tw := tw_of (i := 642) (by decide +kernel) (by decide +kernel)
theorem w_645 : Cond.code yX3_lookAtSide cX3_lookAtSide 3 (some .int) ∈ Tw := tw_of (i := 645) (by decide +kernel) (by decide +kernel)
theorem ws_mlX3_78 : Cond.selects RX3 yX3_lookAtSide yX3_lookAtSide ∈ Tw := tw_sel (q := (⟨"BentPlain$Teller", "lookAtSide", "()I"⟩, 2)) (i := 8) (by decide +kernel)
theorem w_644 : Cond.instanceMethod yX3_lookAtSide ∈ Tw := tw_of (i := 644) (by decide +kernel) (by decide +kernel)
theorem mlX3_78 : MLv RX3 78 kX3_lookAtSide 0 := ⟨⟨w_642, w_5, w_645, by decide, by decide, by decide +kernel⟩, w_644, ws_mlX3_78⟩
theorem w_646 : Cond.methodLink RX3 105 yX3_sideNamed ∈ Tw := tw_of (i := 646) (by decide +kernel) (by decide +kernel)
theorem w_649 : Cond.code yX3_sideNamed cX3_sideNamed 2 (some .int) ∈ Tw := tw_of (i := 649) (by decide +kernel) (by decide +kernel)
theorem ws_mlX3_105 : Cond.selects RX3 yX3_sideNamed yX3_sideNamed ∈ Tw := tw_sel (q := (⟨"BentPlain$Teller", "sideNamed", "()I"⟩, 2)) (i := 9) (by decide +kernel)
theorem w_648 : Cond.instanceMethod yX3_sideNamed ∈ Tw := tw_of (i := 648) (by decide +kernel) (by decide +kernel)
theorem mlX3_105 : MLv RX3 105 kX3_sideNamed 0 := ⟨⟨w_646, w_5, w_649, by decide, by decide, by decide +kernel⟩, w_648, ws_mlX3_105⟩
theorem w_650 : Cond.methodLink RX3 111 yX3_sideName ∈ Tw := tw_of (i := 650) (by decide +kernel) (by decide +kernel)
theorem w_652 : Cond.code yX3_sideName cX3_sideName 1 (some (.object "java/lang/String")) ∈ Tw := tw_of (i := 652) (by decide +kernel) (by decide +kernel)
theorem w_651 : Cond.static yX3_sideName ∈ Tw := tw_of (i := 651) (by decide +kernel) (by decide +kernel)
theorem mlX3_111 : MLs RX3 111 kX3_sideName 1 := ⟨⟨w_650, w_5, w_652, by decide, by decide, by decide +kernel⟩, w_651⟩
theorem w_658 : Cond.methodLink RX3 82 yX0_isFree ∈ Tw := tw_of (i := 658) (by decide +kernel) (by decide +kernel)
theorem mlX3_82 : MLv RX3 82 kX0_isFree 1 := ⟨⟨w_658, w_2, w_224, by decide, by decide, by decide +kernel⟩, w_222, w_223⟩
theorem w_659 : Cond.methodLink RX3 85 yX0_join ∈ Tw := tw_of (i := 659) (by decide +kernel) (by decide +kernel)
theorem mlX3_85 : MLv RX3 85 kX0_join 2 := ⟨⟨w_659, w_2, w_262, by decide, by decide, by decide +kernel⟩, w_260, w_261⟩
theorem w_661 : Cond.methodLink RX3 54 yX3_tellCut ∈ Tw := tw_of (i := 661) (by decide +kernel) (by decide +kernel)
theorem w_664 : Cond.code yX3_tellCut cX3_tellCut 2 (some .boolean) ∈ Tw := tw_of (i := 664) (by decide +kernel) (by decide +kernel)
theorem ws_mlX3_54 : Cond.selects RX3 yX3_tellCut yX3_tellCut ∈ Tw := tw_sel (q := (⟨"BentPlain$Teller", "tellCut", "()Z"⟩, 2)) (i := 10) (by decide +kernel)
theorem w_663 : Cond.instanceMethod yX3_tellCut ∈ Tw := tw_of (i := 663) (by decide +kernel) (by decide +kernel)
theorem mlX3_54 : MLv RX3 54 kX3_tellCut 0 := ⟨⟨w_661, w_5, w_664, by decide, by decide, by decide +kernel⟩, w_663, ws_mlX3_54⟩
theorem w_665 : Cond.methodLink RX3 89 yX0_sever ∈ Tw := tw_of (i := 665) (by decide +kernel) (by decide +kernel)
theorem mlX3_89 : MLv RX3 89 kX0_sever 1 := ⟨⟨w_665, w_2, w_271, by decide, by decide, by decide +kernel⟩, w_269, w_270⟩
theorem w_666 : Cond.methodLink RX3 57 yX3_tellWalker ∈ Tw := tw_of (i := 666) (by decide +kernel) (by decide +kernel)
theorem w_669 : Cond.code yX3_tellWalker cX3_tellWalker 3 (some .boolean) ∈ Tw := tw_of (i := 669) (by decide +kernel) (by decide +kernel)
theorem ws_mlX3_57 : Cond.selects RX3 yX3_tellWalker yX3_tellWalker ∈ Tw := tw_sel (q := (⟨"BentPlain$Teller", "tellWalker", "()Z"⟩, 2)) (i := 11) (by decide +kernel)
theorem w_668 : Cond.instanceMethod yX3_tellWalker ∈ Tw := tw_of (i := 668) (by decide +kernel) (by decide +kernel)
theorem mlX3_57 : MLv RX3 57 kX3_tellWalker 0 := ⟨⟨w_666, w_5, w_669, by decide, by decide, by decide +kernel⟩, w_668, ws_mlX3_57⟩
theorem w_670 : Cond.methodLink RX3 93 yX3_kindNamed ∈ Tw := tw_of (i := 670) (by decide +kernel) (by decide +kernel)
theorem w_673 : Cond.code yX3_kindNamed cX3_kindNamed 2 (some .int) ∈ Tw := tw_of (i := 673) (by decide +kernel) (by decide +kernel)
theorem ws_mlX3_93 : Cond.selects RX3 yX3_kindNamed yX3_kindNamed ∈ Tw := tw_sel (q := (⟨"BentPlain$Teller", "kindNamed", "()I"⟩, 2)) (i := 12) (by decide +kernel)
theorem w_672 : Cond.instanceMethod yX3_kindNamed ∈ Tw := tw_of (i := 672) (by decide +kernel) (by decide +kernel)
theorem mlX3_93 : MLv RX3 93 kX3_kindNamed 0 := ⟨⟨w_670, w_5, w_673, by decide, by decide, by decide +kernel⟩, w_672, ws_mlX3_93⟩
theorem w_674 : Cond.methodLink RX3 115 yX3_kindName ∈ Tw := tw_of (i := 674) (by decide +kernel) (by decide +kernel)
theorem w_676 : Cond.code yX3_kindName cX3_kindName 1 (some (.object "java/lang/String")) ∈ Tw := tw_of (i := 676) (by decide +kernel) (by decide +kernel)
theorem w_675 : Cond.static yX3_kindName ∈ Tw := tw_of (i := 675) (by decide +kernel) (by decide +kernel)
theorem mlX3_115 : MLs RX3 115 kX3_kindName 1 := ⟨⟨w_674, w_5, w_676, by decide, by decide, by decide +kernel⟩, w_675⟩
theorem w_684 : Cond.methodLink RX3 101 yX0_addWalker ∈ Tw := tw_of (i := 684) (by decide +kernel) (by decide +kernel)
theorem mlX3_101 : MLv RX3 101 kX0_addWalker 2 := ⟨⟨w_684, w_2, w_291, by decide, by decide, by decide +kernel⟩, w_289, w_290⟩
theorem w_686 : Cond.methodLink RL 166 yX5_sheet ∈ Tw := tw_of (i := 686) (by decide +kernel) (by decide +kernel)
theorem w_689 : Cond.code yX5_sheet cX5_sheet 5 (some .int) ∈ Tw := tw_of (i := 689) (by decide +kernel) (by decide +kernel)
theorem w_688 : Cond.selects RX5 yX5_sheet yX5_sheet ∈ Tw := tw_of (i := 688) (by decide +kernel) (by decide +kernel)
theorem w_687 : Cond.instanceMethod yX5_sheet ∈ Tw := tw_of (i := 687) (by decide +kernel) (by decide +kernel)
theorem mlL_166 : MLv RL 166 kX5_sheet 3 := ⟨⟨w_686, w_1, w_689, by decide, by decide, by decide +kernel⟩, w_687, w_688⟩
theorem w_690 : Cond.methodLink RX5 255 yX5_isSheet ∈ Tw := tw_of (i := 690) (by decide +kernel) (by decide +kernel)
theorem w_692 : Cond.code yX5_isSheet cX5_isSheet 1 (some .boolean) ∈ Tw := tw_of (i := 692) (by decide +kernel) (by decide +kernel)
theorem w_691 : Cond.static yX5_isSheet ∈ Tw := tw_of (i := 691) (by decide +kernel) (by decide +kernel)
theorem mlX5_255 : MLs RX5 255 kX5_isSheet 1 := ⟨⟨w_690, w_1, w_692, by decide, by decide, by decide +kernel⟩, w_691⟩
theorem w_694 : Cond.methodLink RX5 259 yX1_begin ∈ Tw := tw_of (i := 694) (by decide +kernel) (by decide +kernel)
theorem w_6 : Cond.initialized RX1 ∈ Tw := tw_of (i := 6) (by decide +kernel) (by decide +kernel)
theorem w_697 : Cond.code yX1_begin cX1_begin 3 none ∈ Tw := tw_of (i := 697) (by decide +kernel) (by decide +kernel)
theorem w_696 : Cond.selects RX1 yX1_begin yX1_begin ∈ Tw := tw_of (i := 696) (by decide +kernel) (by decide +kernel)
theorem w_695 : Cond.instanceMethod yX1_begin ∈ Tw := tw_of (i := 695) (by decide +kernel) (by decide +kernel)
theorem mlX5_259 : MLv RX5 259 kX1_begin 2 := ⟨⟨w_694, w_6, w_697, by decide, by decide, by decide +kernel⟩, w_695, w_696⟩
theorem w_698 : Cond.methodLink RX1 22 yJ7_fill_d0a16 ∈ Tw := tw_of (i := 698) (by decide +kernel) (by decide +kernel)
theorem w_700 : Cond.code yJ7_fill_d0a16 cJ7_fill_d0a16 5 none ∈ Tw := tw_of (i := 700) (by decide +kernel) (by decide +kernel)
theorem w_699 : Cond.static yJ7_fill_d0a16 ∈ Tw := tw_of (i := 699) (by decide +kernel) (by decide +kernel)
theorem mlX1_22 : MLs RX1 22 kJ7_fill_d0a16 2 := ⟨⟨w_698, w_10, w_700, by decide, by decide, by decide +kernel⟩, w_699⟩
theorem w_701 : Cond.methodLink RL 172 yX5_write ∈ Tw := tw_of (i := 701) (by decide +kernel) (by decide +kernel)
theorem w_704 : Cond.code yX5_write cX5_write 9 (some .long) ∈ Tw := tw_of (i := 704) (by decide +kernel) (by decide +kernel)
theorem w_703 : Cond.selects RX5 yX5_write yX5_write ∈ Tw := tw_of (i := 703) (by decide +kernel) (by decide +kernel)
theorem w_702 : Cond.instanceMethod yX5_write ∈ Tw := tw_of (i := 702) (by decide +kernel) (by decide +kernel)
theorem mlL_172 : MLv RL 172 kX5_write 3 := ⟨⟨w_701, w_1, w_704, by decide, by decide, by decide +kernel⟩, w_702, w_703⟩
theorem w_705 : Cond.methodLink RX5 265 yX5_sheetFinding ∈ Tw := tw_of (i := 705) (by decide +kernel) (by decide +kernel)
theorem w_708 : Cond.code yX5_sheetFinding cX5_sheetFinding 2 (some .int) ∈ Tw := tw_of (i := 708) (by decide +kernel) (by decide +kernel)
theorem ws_mlX5_265 : Cond.selects RX5 yX5_sheetFinding yX5_sheetFinding ∈ Tw := tw_sel (q := (⟨"BentPlain", "sheetFinding", "(I)I"⟩, 13)) (i := 13) (by decide +kernel)
theorem w_707 : Cond.instanceMethod yX5_sheetFinding ∈ Tw := tw_of (i := 707) (by decide +kernel) (by decide +kernel)
theorem mlX5_265 : MLv RX5 265 kX5_sheetFinding 1 := ⟨⟨w_705, w_1, w_708, by decide, by decide, by decide +kernel⟩, w_707, ws_mlX5_265⟩
theorem w_710 : Cond.methodLink RX5 272 yX1_lowestBits ∈ Tw := tw_of (i := 710) (by decide +kernel) (by decide +kernel)
theorem w_713 : Cond.code yX1_lowestBits cX1_lowestBits 3 (some .long) ∈ Tw := tw_of (i := 713) (by decide +kernel) (by decide +kernel)
theorem w_712 : Cond.selects RX1 yX1_lowestBits yX1_lowestBits ∈ Tw := tw_of (i := 712) (by decide +kernel) (by decide +kernel)
theorem w_711 : Cond.instanceMethod yX1_lowestBits ∈ Tw := tw_of (i := 711) (by decide +kernel) (by decide +kernel)
theorem mlX5_272 : MLv RX5 272 kX1_lowestBits 1 := ⟨⟨w_710, w_6, w_713, by decide, by decide, by decide +kernel⟩, w_711, w_712⟩
theorem w_714 : Cond.methodLink RL 177 yX5_copy ∈ Tw := tw_of (i := 714) (by decide +kernel) (by decide +kernel)
theorem w_717 : Cond.code yX5_copy cX5_copy 8 (some .int) ∈ Tw := tw_of (i := 717) (by decide +kernel) (by decide +kernel)
theorem w_716 : Cond.selects RX5 yX5_copy yX5_copy ∈ Tw := tw_of (i := 716) (by decide +kernel) (by decide +kernel)
theorem w_715 : Cond.instanceMethod yX5_copy ∈ Tw := tw_of (i := 715) (by decide +kernel) (by decide +kernel)
theorem mlL_177 : MLv RL 177 kX5_copy 5 := ⟨⟨w_714, w_1, w_717, by decide, by decide, by decide +kernel⟩, w_715, w_716⟩
theorem w_718 : Cond.methodLink RX5 280 yX1_hasRow ∈ Tw := tw_of (i := 718) (by decide +kernel) (by decide +kernel)
theorem w_721 : Cond.code yX1_hasRow cX1_hasRow 3 (some .boolean) ∈ Tw := tw_of (i := 721) (by decide +kernel) (by decide +kernel)
theorem w_720 : Cond.selects RX1 yX1_hasRow yX1_hasRow ∈ Tw := tw_of (i := 720) (by decide +kernel) (by decide +kernel)
theorem w_719 : Cond.instanceMethod yX1_hasRow ∈ Tw := tw_of (i := 719) (by decide +kernel) (by decide +kernel)
theorem mlX5_280 : MLv RX5 280 kX1_hasRow 2 := ⟨⟨w_718, w_6, w_721, by decide, by decide, by decide +kernel⟩, w_719, w_720⟩
theorem w_723 : Cond.methodLink RL 182 yX5_lays ∈ Tw := tw_of (i := 723) (by decide +kernel) (by decide +kernel)
theorem w_726 : Cond.code yX5_lays cX5_lays 8 (some .int) ∈ Tw := tw_of (i := 726) (by decide +kernel) (by decide +kernel)
theorem w_725 : Cond.selects RX5 yX5_lays yX5_lays ∈ Tw := tw_of (i := 725) (by decide +kernel) (by decide +kernel)
theorem w_724 : Cond.instanceMethod yX5_lays ∈ Tw := tw_of (i := 724) (by decide +kernel) (by decide +kernel)
theorem mlL_182 : MLv RL 182 kX5_lays 1 := ⟨⟨w_723, w_1, w_726, by decide, by decide, by decide +kernel⟩, w_724, w_725⟩
theorem w_728 : Cond.methodLink RL 186 yX5_book ∈ Tw := tw_of (i := 728) (by decide +kernel) (by decide +kernel)
theorem w_731 : Cond.code yX5_book cX5_book 6 (some .int) ∈ Tw := tw_of (i := 731) (by decide +kernel) (by decide +kernel)
theorem w_730 : Cond.selects RX5 yX5_book yX5_book ∈ Tw := tw_of (i := 730) (by decide +kernel) (by decide +kernel)
theorem w_729 : Cond.instanceMethod yX5_book ∈ Tw := tw_of (i := 729) (by decide +kernel) (by decide +kernel)
theorem mlL_186 : MLv RL 186 kX5_book 2 := ⟨⟨w_728, w_1, w_731, by decide, by decide, by decide +kernel⟩, w_729, w_730⟩
theorem w_732 : Cond.methodLink RX5 291 yX5_bookFinding ∈ Tw := tw_of (i := 732) (by decide +kernel) (by decide +kernel)
theorem w_735 : Cond.code yX5_bookFinding cX5_bookFinding 4 (some .int) ∈ Tw := tw_of (i := 735) (by decide +kernel) (by decide +kernel)
theorem ws_mlX5_291 : Cond.selects RX5 yX5_bookFinding yX5_bookFinding ∈ Tw := tw_sel (q := (⟨"BentPlain", "bookFinding", "(II)I"⟩, 13)) (i := 14) (by decide +kernel)
theorem w_734 : Cond.instanceMethod yX5_bookFinding ∈ Tw := tw_of (i := 734) (by decide +kernel) (by decide +kernel)
theorem mlX5_291 : MLv RX5 291 kX5_bookFinding 2 := ⟨⟨w_732, w_1, w_735, by decide, by decide, by decide +kernel⟩, w_734, ws_mlX5_291⟩
theorem w_736 : Cond.methodLink RL 190 yX5_read ∈ Tw := tw_of (i := 736) (by decide +kernel) (by decide +kernel)
theorem w_739 : Cond.code yX5_read cX5_read 6 (some .int) ∈ Tw := tw_of (i := 739) (by decide +kernel) (by decide +kernel)
theorem w_738 : Cond.selects RX5 yX5_read yX5_read ∈ Tw := tw_of (i := 738) (by decide +kernel) (by decide +kernel)
theorem w_737 : Cond.instanceMethod yX5_read ∈ Tw := tw_of (i := 737) (by decide +kernel) (by decide +kernel)
theorem mlL_190 : MLv RL 190 kX5_read 2 := ⟨⟨w_736, w_1, w_739, by decide, by decide, by decide +kernel⟩, w_737, w_738⟩
theorem w_740 : Cond.methodLink RX5 294 yX5_goesByBook ∈ Tw := tw_of (i := 740) (by decide +kernel) (by decide +kernel)
theorem w_743 : Cond.code yX5_goesByBook cX5_goesByBook 3 (some .boolean) ∈ Tw := tw_of (i := 743) (by decide +kernel) (by decide +kernel)
theorem ws_mlX5_294 : Cond.selects RX5 yX5_goesByBook yX5_goesByBook ∈ Tw := tw_sel (q := (⟨"BentPlain", "goesByBook", "(LBentPlain$Sheet;)Z"⟩, 13)) (i := 15) (by decide +kernel)
theorem w_742 : Cond.instanceMethod yX5_goesByBook ∈ Tw := tw_of (i := 742) (by decide +kernel) (by decide +kernel)
theorem mlX5_294 : MLv RX5 294 kX5_goesByBook 1 := ⟨⟨w_740, w_1, w_743, by decide, by decide, by decide +kernel⟩, w_742, ws_mlX5_294⟩
theorem w_744 : Cond.methodLink RL 194 yX5_image ∈ Tw := tw_of (i := 744) (by decide +kernel) (by decide +kernel)
theorem w_747 : Cond.code yX5_image cX5_image 1 (some .int) ∈ Tw := tw_of (i := 747) (by decide +kernel) (by decide +kernel)
theorem w_746 : Cond.selects RX5 yX5_image yX5_image ∈ Tw := tw_of (i := 746) (by decide +kernel) (by decide +kernel)
theorem w_745 : Cond.instanceMethod yX5_image ∈ Tw := tw_of (i := 745) (by decide +kernel) (by decide +kernel)
theorem mlL_194 : MLv RL 194 kX5_image 0 := ⟨⟨w_744, w_1, w_747, by decide, by decide, by decide +kernel⟩, w_745, w_746⟩
theorem w_748 : Cond.methodLink RL 198 yX5_undo ∈ Tw := tw_of (i := 748) (by decide +kernel) (by decide +kernel)
theorem w_751 : Cond.code yX5_undo cX5_undo 1 (some .int) ∈ Tw := tw_of (i := 751) (by decide +kernel) (by decide +kernel)
theorem w_750 : Cond.selects RX5 yX5_undo yX5_undo ∈ Tw := tw_of (i := 750) (by decide +kernel) (by decide +kernel)
theorem w_749 : Cond.instanceMethod yX5_undo ∈ Tw := tw_of (i := 749) (by decide +kernel) (by decide +kernel)
theorem mlL_198 : MLv RL 198 kX5_undo 0 := ⟨⟨w_748, w_1, w_751, by decide, by decide, by decide +kernel⟩, w_749, w_750⟩
theorem w_752 : Cond.methodLink RL 202 yX5_tear ∈ Tw := tw_of (i := 752) (by decide +kernel) (by decide +kernel)
theorem w_755 : Cond.code yX5_tear cX5_tear 2 (some .int) ∈ Tw := tw_of (i := 755) (by decide +kernel) (by decide +kernel)
theorem w_754 : Cond.selects RX5 yX5_tear yX5_tear ∈ Tw := tw_of (i := 754) (by decide +kernel) (by decide +kernel)
theorem w_753 : Cond.instanceMethod yX5_tear ∈ Tw := tw_of (i := 753) (by decide +kernel) (by decide +kernel)
theorem mlL_202 : MLv RL 202 kX5_tear 0 := ⟨⟨w_752, w_1, w_755, by decide, by decide, by decide +kernel⟩, w_753, w_754⟩
theorem w_756 : Cond.methodLink RL 206 yX5_count ∈ Tw := tw_of (i := 756) (by decide +kernel) (by decide +kernel)
theorem w_759 : Cond.code yX5_count cX5_count 2 (some .int) ∈ Tw := tw_of (i := 759) (by decide +kernel) (by decide +kernel)
theorem w_758 : Cond.selects RX5 yX5_count yX5_count ∈ Tw := tw_of (i := 758) (by decide +kernel) (by decide +kernel)
theorem w_757 : Cond.instanceMethod yX5_count ∈ Tw := tw_of (i := 757) (by decide +kernel) (by decide +kernel)
theorem mlL_206 : MLv RL 206 kX5_count 1 := ⟨⟨w_756, w_1, w_759, by decide, by decide, by decide +kernel⟩, w_757, w_758⟩
theorem w_760 : Cond.methodLink RX5 302 yX0_gluedSides ∈ Tw := tw_of (i := 760) (by decide +kernel) (by decide +kernel)
theorem w_763 : Cond.code yX0_gluedSides cX0_gluedSides 3 (some .int) ∈ Tw := tw_of (i := 763) (by decide +kernel) (by decide +kernel)
theorem w_762 : Cond.selects RX0 yX0_gluedSides yX0_gluedSides ∈ Tw := tw_of (i := 762) (by decide +kernel) (by decide +kernel)
theorem w_761 : Cond.instanceMethod yX0_gluedSides ∈ Tw := tw_of (i := 761) (by decide +kernel) (by decide +kernel)
theorem mlX5_302 : MLv RX5 302 kX0_gluedSides 0 := ⟨⟨w_760, w_2, w_763, by decide, by decide, by decide +kernel⟩, w_761, w_762⟩
theorem w_764 : Cond.methodLink RL 210 yX5_status ∈ Tw := tw_of (i := 764) (by decide +kernel) (by decide +kernel)
theorem w_767 : Cond.code yX5_status cX5_status 4 (some .int) ∈ Tw := tw_of (i := 767) (by decide +kernel) (by decide +kernel)
theorem w_766 : Cond.selects RX5 yX5_status yX5_status ∈ Tw := tw_of (i := 766) (by decide +kernel) (by decide +kernel)
theorem w_765 : Cond.instanceMethod yX5_status ∈ Tw := tw_of (i := 765) (by decide +kernel) (by decide +kernel)
theorem mlL_210 : MLv RL 210 kX5_status 1 := ⟨⟨w_764, w_1, w_767, by decide, by decide, by decide +kernel⟩, w_765, w_766⟩
theorem w_826 : Cond.methodLink RL 17 yX6_field ∈ Tw := tw_of (i := 826) (by decide +kernel) (by decide +kernel)
theorem w_7 : Cond.initialized RX6 ∈ Tw := tw_of (i := 7) (by decide +kernel) (by decide +kernel)
theorem w_829 : Cond.code yX6_field cX6_field 2 (some .int) ∈ Tw := tw_of (i := 829) (by decide +kernel) (by decide +kernel)
theorem w_828 : Cond.selects RX6 yX6_field yX6_field ∈ Tw := tw_of (i := 828) (by decide +kernel) (by decide +kernel)
theorem w_827 : Cond.instanceMethod yX6_field ∈ Tw := tw_of (i := 827) (by decide +kernel) (by decide +kernel)
theorem mlL_17 : MLv RL 17 kX6_field 1 := ⟨⟨w_826, w_7, w_829, by decide, by decide, by decide +kernel⟩, w_827, w_828⟩
theorem w_831 : Cond.methodLink RX6 45 yX6_in ∈ Tw := tw_of (i := 831) (by decide +kernel) (by decide +kernel)
theorem w_833 : Cond.code yX6_in cX6_in 6 (some .boolean) ∈ Tw := tw_of (i := 833) (by decide +kernel) (by decide +kernel)
theorem w_832 : Cond.static yX6_in ∈ Tw := tw_of (i := 832) (by decide +kernel) (by decide +kernel)
theorem mlX6_45 : MLs RX6 45 kX6_in 3 := ⟨⟨w_831, w_7, w_833, by decide, by decide, by decide +kernel⟩, w_832⟩
theorem w_835 : Cond.methodLink RX6 69 yX6_finds ∈ Tw := tw_of (i := 835) (by decide +kernel) (by decide +kernel)
theorem w_838 : Cond.code yX6_finds cX6_finds 2 (some .int) ∈ Tw := tw_of (i := 838) (by decide +kernel) (by decide +kernel)
theorem ws_mlX6_69 : Cond.selects RX6 yX6_finds yX6_finds ∈ Tw := tw_sel (q := (⟨"BentPlainModel", "finds", "(I)I"⟩, 17)) (i := 16) (by decide +kernel)
theorem w_837 : Cond.instanceMethod yX6_finds ∈ Tw := tw_of (i := 837) (by decide +kernel) (by decide +kernel)
theorem mlX6_69 : MLv RX6 69 kX6_finds 1 := ⟨⟨w_835, w_7, w_838, by decide, by decide, by decide +kernel⟩, w_837, ws_mlX6_69⟩
theorem w_840 : Cond.methodLink RX6 74 yX6_adds ∈ Tw := tw_of (i := 840) (by decide +kernel) (by decide +kernel)
theorem w_843 : Cond.code yX6_adds cX6_adds 2 (some .int) ∈ Tw := tw_of (i := 843) (by decide +kernel) (by decide +kernel)
theorem ws_mlX6_74 : Cond.selects RX6 yX6_adds yX6_adds ∈ Tw := tw_sel (q := (⟨"BentPlainModel", "adds", "(I)I"⟩, 17)) (i := 17) (by decide +kernel)
theorem w_842 : Cond.instanceMethod yX6_adds ∈ Tw := tw_of (i := 842) (by decide +kernel) (by decide +kernel)
theorem mlX6_74 : MLv RX6 74 kX6_adds 1 := ⟨⟨w_840, w_7, w_843, by decide, by decide, by decide +kernel⟩, w_842, ws_mlX6_74⟩
theorem w_844 : Cond.methodLink RL 22 yX6_of ∈ Tw := tw_of (i := 844) (by decide +kernel) (by decide +kernel)
theorem w_847 : Cond.code yX6_of cX6_of 3 (some .int) ∈ Tw := tw_of (i := 847) (by decide +kernel) (by decide +kernel)
theorem w_846 : Cond.selects RX6 yX6_of yX6_of ∈ Tw := tw_of (i := 846) (by decide +kernel) (by decide +kernel)
theorem w_845 : Cond.instanceMethod yX6_of ∈ Tw := tw_of (i := 845) (by decide +kernel) (by decide +kernel)
theorem mlL_22 : MLv RL 22 kX6_of 2 := ⟨⟨w_844, w_7, w_847, by decide, by decide, by decide +kernel⟩, w_845, w_846⟩
theorem w_848 : Cond.methodLink RX6 53 yX6_isField ∈ Tw := tw_of (i := 848) (by decide +kernel) (by decide +kernel)
theorem w_851 : Cond.code yX6_isField cX6_isField 2 (some .boolean) ∈ Tw := tw_of (i := 851) (by decide +kernel) (by decide +kernel)
theorem ws_mlX6_53 : Cond.selects RX6 yX6_isField yX6_isField ∈ Tw := tw_sel (q := (⟨"BentPlainModel", "isField", "(I)Z"⟩, 17)) (i := 18) (by decide +kernel)
theorem w_850 : Cond.instanceMethod yX6_isField ∈ Tw := tw_of (i := 850) (by decide +kernel) (by decide +kernel)
theorem mlX6_53 : MLv RX6 53 kX6_isField 1 := ⟨⟨w_848, w_7, w_851, by decide, by decide, by decide +kernel⟩, w_850, ws_mlX6_53⟩
theorem w_853 : Cond.methodLink RX6 79 yX6_gluedOf ∈ Tw := tw_of (i := 853) (by decide +kernel) (by decide +kernel)
theorem w_856 : Cond.code yX6_gluedOf cX6_gluedOf 4 (some .int) ∈ Tw := tw_of (i := 856) (by decide +kernel) (by decide +kernel)
theorem ws_mlX6_79 : Cond.selects RX6 yX6_gluedOf yX6_gluedOf ∈ Tw := tw_sel (q := (⟨"BentPlainModel", "gluedOf", "(I)I"⟩, 17)) (i := 19) (by decide +kernel)
theorem w_855 : Cond.instanceMethod yX6_gluedOf ∈ Tw := tw_of (i := 855) (by decide +kernel) (by decide +kernel)
theorem mlX6_79 : MLv RX6 79 kX6_gluedOf 1 := ⟨⟨w_853, w_7, w_856, by decide, by decide, by decide +kernel⟩, w_855, ws_mlX6_79⟩
theorem w_857 : Cond.methodLink RX6 82 yX6_those ∈ Tw := tw_of (i := 857) (by decide +kernel) (by decide +kernel)
theorem w_860 : Cond.code yX6_those cX6_those 4 (some .int) ∈ Tw := tw_of (i := 860) (by decide +kernel) (by decide +kernel)
theorem ws_mlX6_82 : Cond.selects RX6 yX6_those yX6_those ∈ Tw := tw_sel (q := (⟨"BentPlainModel", "those", "(I)I"⟩, 17)) (i := 20) (by decide +kernel)
theorem w_859 : Cond.instanceMethod yX6_those ∈ Tw := tw_of (i := 859) (by decide +kernel) (by decide +kernel)
theorem mlX6_82 : MLv RX6 82 kX6_those 1 := ⟨⟨w_857, w_7, w_860, by decide, by decide, by decide +kernel⟩, w_859, ws_mlX6_82⟩
theorem w_861 : Cond.methodLink RX6 64 yX6_partOf ∈ Tw := tw_of (i := 861) (by decide +kernel) (by decide +kernel)
theorem w_864 : Cond.code yX6_partOf cX6_partOf 3 (some .int) ∈ Tw := tw_of (i := 864) (by decide +kernel) (by decide +kernel)
theorem ws_mlX6_64 : Cond.selects RX6 yX6_partOf yX6_partOf ∈ Tw := tw_sel (q := (⟨"BentPlainModel", "partOf", "(II)I"⟩, 17)) (i := 21) (by decide +kernel)
theorem w_863 : Cond.instanceMethod yX6_partOf ∈ Tw := tw_of (i := 863) (by decide +kernel) (by decide +kernel)
theorem mlX6_64 : MLv RX6 64 kX6_partOf 2 := ⟨⟨w_861, w_7, w_864, by decide, by decide, by decide +kernel⟩, w_863, ws_mlX6_64⟩
theorem w_865 : Cond.methodLink RX6 60 yX6_spot ∈ Tw := tw_of (i := 865) (by decide +kernel) (by decide +kernel)
theorem w_867 : Cond.code yX6_spot cX6_spot 2 (some .int) ∈ Tw := tw_of (i := 867) (by decide +kernel) (by decide +kernel)
theorem w_866 : Cond.static yX6_spot ∈ Tw := tw_of (i := 866) (by decide +kernel) (by decide +kernel)
theorem mlX6_60 : MLs RX6 60 kX6_spot 2 := ⟨⟨w_865, w_7, w_867, by decide, by decide, by decide +kernel⟩, w_866⟩
theorem w_868 : Cond.methodLink RL 26 yX6_rough ∈ Tw := tw_of (i := 868) (by decide +kernel) (by decide +kernel)
theorem w_871 : Cond.code yX6_rough cX6_rough 3 (some .int) ∈ Tw := tw_of (i := 871) (by decide +kernel) (by decide +kernel)
theorem w_870 : Cond.selects RX6 yX6_rough yX6_rough ∈ Tw := tw_of (i := 870) (by decide +kernel) (by decide +kernel)
theorem w_869 : Cond.instanceMethod yX6_rough ∈ Tw := tw_of (i := 869) (by decide +kernel) (by decide +kernel)
theorem mlL_26 : MLv RL 26 kX6_rough 2 := ⟨⟨w_868, w_7, w_871, by decide, by decide, by decide +kernel⟩, w_869, w_870⟩
theorem w_872 : Cond.methodLink RX6 85 yX6_becomes ∈ Tw := tw_of (i := 872) (by decide +kernel) (by decide +kernel)
theorem w_875 : Cond.code yX6_becomes cX6_becomes 4 (some .int) ∈ Tw := tw_of (i := 875) (by decide +kernel) (by decide +kernel)
theorem ws_mlX6_85 : Cond.selects RX6 yX6_becomes yX6_becomes ∈ Tw := tw_sel (q := (⟨"BentPlainModel", "becomes", "(II)I"⟩, 17)) (i := 22) (by decide +kernel)
theorem w_874 : Cond.instanceMethod yX6_becomes ∈ Tw := tw_of (i := 874) (by decide +kernel) (by decide +kernel)
theorem mlX6_85 : MLv RX6 85 kX6_becomes 2 := ⟨⟨w_872, w_7, w_875, by decide, by decide, by decide +kernel⟩, w_874, ws_mlX6_85⟩
theorem w_876 : Cond.methodLink RL 31 yX6_glue ∈ Tw := tw_of (i := 876) (by decide +kernel) (by decide +kernel)
theorem w_879 : Cond.code yX6_glue cX6_glue 5 (some .int) ∈ Tw := tw_of (i := 879) (by decide +kernel) (by decide +kernel)
theorem w_878 : Cond.selects RX6 yX6_glue yX6_glue ∈ Tw := tw_of (i := 878) (by decide +kernel) (by decide +kernel)
theorem w_877 : Cond.instanceMethod yX6_glue ∈ Tw := tw_of (i := 877) (by decide +kernel) (by decide +kernel)
theorem mlL_31 : MLv RL 31 kX6_glue 4 := ⟨⟨w_876, w_7, w_879, by decide, by decide, by decide +kernel⟩, w_877, w_878⟩
theorem w_880 : Cond.methodLink RX6 88 yX6_isWay ∈ Tw := tw_of (i := 880) (by decide +kernel) (by decide +kernel)
theorem w_883 : Cond.code yX6_isWay cX6_isWay 3 (some .boolean) ∈ Tw := tw_of (i := 883) (by decide +kernel) (by decide +kernel)
theorem ws_mlX6_88 : Cond.selects RX6 yX6_isWay yX6_isWay ∈ Tw := tw_sel (q := (⟨"BentPlainModel", "isWay", "(II)Z"⟩, 17)) (i := 23) (by decide +kernel)
theorem w_882 : Cond.instanceMethod yX6_isWay ∈ Tw := tw_of (i := 882) (by decide +kernel) (by decide +kernel)
theorem mlX6_88 : MLv RX6 88 kX6_isWay 2 := ⟨⟨w_880, w_7, w_883, by decide, by decide, by decide +kernel⟩, w_882, ws_mlX6_88⟩
theorem w_884 : Cond.methodLink RX6 57 yX6_isSide ∈ Tw := tw_of (i := 884) (by decide +kernel) (by decide +kernel)
theorem w_886 : Cond.code yX6_isSide cX6_isSide 1 (some .boolean) ∈ Tw := tw_of (i := 886) (by decide +kernel) (by decide +kernel)
theorem w_885 : Cond.static yX6_isSide ∈ Tw := tw_of (i := 885) (by decide +kernel) (by decide +kernel)
theorem mlX6_57 : MLs RX6 57 kX6_isSide 1 := ⟨⟨w_884, w_7, w_886, by decide, by decide, by decide +kernel⟩, w_885⟩
theorem w_889 : Cond.methodLink RX6 93 yX6_glues ∈ Tw := tw_of (i := 889) (by decide +kernel) (by decide +kernel)
theorem w_892 : Cond.code yX6_glues cX6_glues 3 none ∈ Tw := tw_of (i := 892) (by decide +kernel) (by decide +kernel)
theorem ws_mlX6_93 : Cond.selects RX6 yX6_glues yX6_glues ∈ Tw := tw_sel (q := (⟨"BentPlainModel", "glues", "(II)V"⟩, 17)) (i := 24) (by decide +kernel)
theorem w_891 : Cond.instanceMethod yX6_glues ∈ Tw := tw_of (i := 891) (by decide +kernel) (by decide +kernel)
theorem mlX6_93 : MLv RX6 93 kX6_glues 2 := ⟨⟨w_889, w_7, w_892, by decide, by decide, by decide +kernel⟩, w_891, ws_mlX6_93⟩
theorem w_893 : Cond.methodLink RL 35 yX6_cut ∈ Tw := tw_of (i := 893) (by decide +kernel) (by decide +kernel)
theorem w_896 : Cond.code yX6_cut cX6_cut 4 (some .int) ∈ Tw := tw_of (i := 896) (by decide +kernel) (by decide +kernel)
theorem w_895 : Cond.selects RX6 yX6_cut yX6_cut ∈ Tw := tw_of (i := 895) (by decide +kernel) (by decide +kernel)
theorem w_894 : Cond.instanceMethod yX6_cut ∈ Tw := tw_of (i := 894) (by decide +kernel) (by decide +kernel)
theorem mlL_35 : MLv RL 35 kX6_cut 2 := ⟨⟨w_893, w_7, w_896, by decide, by decide, by decide +kernel⟩, w_894, w_895⟩
theorem w_897 : Cond.methodLink RX6 97 yX6_cuts ∈ Tw := tw_of (i := 897) (by decide +kernel) (by decide +kernel)
theorem w_900 : Cond.code yX6_cuts cX6_cuts 2 none ∈ Tw := tw_of (i := 900) (by decide +kernel) (by decide +kernel)
theorem ws_mlX6_97 : Cond.selects RX6 yX6_cuts yX6_cuts ∈ Tw := tw_sel (q := (⟨"BentPlainModel", "cuts", "(I)V"⟩, 17)) (i := 25) (by decide +kernel)
theorem w_899 : Cond.instanceMethod yX6_cuts ∈ Tw := tw_of (i := 899) (by decide +kernel) (by decide +kernel)
theorem mlX6_97 : MLv RX6 97 kX6_cuts 1 := ⟨⟨w_897, w_7, w_900, by decide, by decide, by decide +kernel⟩, w_899, ws_mlX6_97⟩
theorem w_901 : Cond.methodLink RL 39 yX6_over ∈ Tw := tw_of (i := 901) (by decide +kernel) (by decide +kernel)
theorem w_904 : Cond.code yX6_over cX6_over 4 (some .int) ∈ Tw := tw_of (i := 904) (by decide +kernel) (by decide +kernel)
theorem w_903 : Cond.selects RX6 yX6_over yX6_over ∈ Tw := tw_of (i := 903) (by decide +kernel) (by decide +kernel)
theorem w_902 : Cond.instanceMethod yX6_over ∈ Tw := tw_of (i := 902) (by decide +kernel) (by decide +kernel)
theorem mlL_39 : MLv RL 39 kX6_over 2 := ⟨⟨w_901, w_7, w_904, by decide, by decide, by decide +kernel⟩, w_902, w_903⟩
theorem w_906 : Cond.methodLink RL 44 yX6_walker ∈ Tw := tw_of (i := 906) (by decide +kernel) (by decide +kernel)
theorem w_909 : Cond.code yX6_walker cX6_walker 4 (some .int) ∈ Tw := tw_of (i := 909) (by decide +kernel) (by decide +kernel)
theorem w_908 : Cond.selects RX6 yX6_walker yX6_walker ∈ Tw := tw_of (i := 908) (by decide +kernel) (by decide +kernel)
theorem w_907 : Cond.instanceMethod yX6_walker ∈ Tw := tw_of (i := 907) (by decide +kernel) (by decide +kernel)
theorem mlL_44 : MLv RL 44 kX6_walker 3 := ⟨⟨w_906, w_7, w_909, by decide, by decide, by decide +kernel⟩, w_907, w_908⟩
theorem w_910 : Cond.methodLink RX6 102 yX6_isKind ∈ Tw := tw_of (i := 910) (by decide +kernel) (by decide +kernel)
theorem w_912 : Cond.code yX6_isKind cX6_isKind 1 (some .boolean) ∈ Tw := tw_of (i := 912) (by decide +kernel) (by decide +kernel)
theorem w_911 : Cond.static yX6_isKind ∈ Tw := tw_of (i := 911) (by decide +kernel) (by decide +kernel)
theorem mlX6_102 : MLs RX6 102 kX6_isKind 1 := ⟨⟨w_910, w_7, w_912, by decide, by decide, by decide +kernel⟩, w_911⟩
theorem w_914 : Cond.methodLink RX6 105 yX6_comes ∈ Tw := tw_of (i := 914) (by decide +kernel) (by decide +kernel)
theorem w_917 : Cond.code yX6_comes cX6_comes 5 (some .int) ∈ Tw := tw_of (i := 917) (by decide +kernel) (by decide +kernel)
theorem ws_mlX6_105 : Cond.selects RX6 yX6_comes yX6_comes ∈ Tw := tw_sel (q := (⟨"BentPlainModel", "comes", "(III)I"⟩, 17)) (i := 26) (by decide +kernel)
theorem w_916 : Cond.instanceMethod yX6_comes ∈ Tw := tw_of (i := 916) (by decide +kernel) (by decide +kernel)
theorem mlX6_105 : MLv RX6 105 kX6_comes 3 := ⟨⟨w_914, w_7, w_917, by decide, by decide, by decide +kernel⟩, w_916, ws_mlX6_105⟩
theorem w_918 : Cond.methodLink RL 48 yX6_its ∈ Tw := tw_of (i := 918) (by decide +kernel) (by decide +kernel)
theorem w_921 : Cond.code yX6_its cX6_its 3 (some .int) ∈ Tw := tw_of (i := 921) (by decide +kernel) (by decide +kernel)
theorem w_920 : Cond.selects RX6 yX6_its yX6_its ∈ Tw := tw_of (i := 920) (by decide +kernel) (by decide +kernel)
theorem w_919 : Cond.instanceMethod yX6_its ∈ Tw := tw_of (i := 919) (by decide +kernel) (by decide +kernel)
theorem mlL_48 : MLv RL 48 kX6_its 2 := ⟨⟨w_918, w_7, w_921, by decide, by decide, by decide +kernel⟩, w_919, w_920⟩
theorem w_922 : Cond.methodLink RX6 124 yX6_isWalker ∈ Tw := tw_of (i := 922) (by decide +kernel) (by decide +kernel)
theorem w_925 : Cond.code yX6_isWalker cX6_isWalker 2 (some .boolean) ∈ Tw := tw_of (i := 925) (by decide +kernel) (by decide +kernel)
theorem ws_mlX6_124 : Cond.selects RX6 yX6_isWalker yX6_isWalker ∈ Tw := tw_sel (q := (⟨"BentPlainModel", "isWalker", "(I)Z"⟩, 17)) (i := 27) (by decide +kernel)
theorem w_924 : Cond.instanceMethod yX6_isWalker ∈ Tw := tw_of (i := 924) (by decide +kernel) (by decide +kernel)
theorem mlX6_124 : MLv RX6 124 kX6_isWalker 1 := ⟨⟨w_922, w_7, w_925, by decide, by decide, by decide +kernel⟩, w_924, ws_mlX6_124⟩
theorem w_926 : Cond.methodLink RX6 118 yX6_pays ∈ Tw := tw_of (i := 926) (by decide +kernel) (by decide +kernel)
theorem w_928 : Cond.code yX6_pays cX6_pays 2 (some .int) ∈ Tw := tw_of (i := 928) (by decide +kernel) (by decide +kernel)
theorem w_927 : Cond.static yX6_pays ∈ Tw := tw_of (i := 927) (by decide +kernel) (by decide +kernel)
theorem mlX6_118 : MLs RX6 118 kX6_pays 2 := ⟨⟨w_926, w_7, w_928, by decide, by decide, by decide +kernel⟩, w_927⟩
theorem w_929 : Cond.methodLink RL 52 yX6_place ∈ Tw := tw_of (i := 929) (by decide +kernel) (by decide +kernel)
theorem w_932 : Cond.code yX6_place cX6_place 5 (some .int) ∈ Tw := tw_of (i := 932) (by decide +kernel) (by decide +kernel)
theorem w_931 : Cond.selects RX6 yX6_place yX6_place ∈ Tw := tw_of (i := 931) (by decide +kernel) (by decide +kernel)
theorem w_930 : Cond.instanceMethod yX6_place ∈ Tw := tw_of (i := 930) (by decide +kernel) (by decide +kernel)
theorem mlL_52 : MLv RL 52 kX6_place 3 := ⟨⟨w_929, w_7, w_932, by decide, by decide, by decide +kernel⟩, w_930, w_931⟩
theorem w_933 : Cond.methodLink RX6 109 yX6_wayOf ∈ Tw := tw_of (i := 933) (by decide +kernel) (by decide +kernel)
theorem w_936 : Cond.code yX6_wayOf cX6_wayOf 2 (some .int) ∈ Tw := tw_of (i := 936) (by decide +kernel) (by decide +kernel)
theorem ws_mlX6_109 : Cond.selects RX6 yX6_wayOf yX6_wayOf ∈ Tw := tw_sel (q := (⟨"BentPlainModel", "wayOf", "(I)I"⟩, 17)) (i := 28) (by decide +kernel)
theorem w_935 : Cond.instanceMethod yX6_wayOf ∈ Tw := tw_of (i := 935) (by decide +kernel) (by decide +kernel)
theorem mlX6_109 : MLv RX6 109 kX6_wayOf 1 := ⟨⟨w_933, w_7, w_936, by decide, by decide, by decide +kernel⟩, w_935, ws_mlX6_109⟩
theorem w_937 : Cond.methodLink RX6 127 yX6_stands ∈ Tw := tw_of (i := 937) (by decide +kernel) (by decide +kernel)
theorem w_940 : Cond.code yX6_stands cX6_stands 3 none ∈ Tw := tw_of (i := 940) (by decide +kernel) (by decide +kernel)
theorem ws_mlX6_127 : Cond.selects RX6 yX6_stands yX6_stands ∈ Tw := tw_sel (q := (⟨"BentPlainModel", "stands", "(II)V"⟩, 17)) (i := 29) (by decide +kernel)
theorem w_939 : Cond.instanceMethod yX6_stands ∈ Tw := tw_of (i := 939) (by decide +kernel) (by decide +kernel)
theorem mlX6_127 : MLv RX6 127 kX6_stands 2 := ⟨⟨w_937, w_7, w_940, by decide, by decide, by decide +kernel⟩, w_939, ws_mlX6_127⟩
theorem w_941 : Cond.methodLink RL 56 yX6_turn ∈ Tw := tw_of (i := 941) (by decide +kernel) (by decide +kernel)
theorem w_944 : Cond.code yX6_turn cX6_turn 3 (some .int) ∈ Tw := tw_of (i := 944) (by decide +kernel) (by decide +kernel)
theorem w_943 : Cond.selects RX6 yX6_turn yX6_turn ∈ Tw := tw_of (i := 943) (by decide +kernel) (by decide +kernel)
theorem w_942 : Cond.instanceMethod yX6_turn ∈ Tw := tw_of (i := 942) (by decide +kernel) (by decide +kernel)
theorem mlL_56 : MLv RL 56 kX6_turn 2 := ⟨⟨w_941, w_7, w_944, by decide, by decide, by decide +kernel⟩, w_942, w_943⟩
theorem w_945 : Cond.methodLink RL 60 yX6_as ∈ Tw := tw_of (i := 945) (by decide +kernel) (by decide +kernel)
theorem w_948 : Cond.code yX6_as cX6_as 4 (some .int) ∈ Tw := tw_of (i := 948) (by decide +kernel) (by decide +kernel)
theorem w_947 : Cond.selects RX6 yX6_as yX6_as ∈ Tw := tw_of (i := 947) (by decide +kernel) (by decide +kernel)
theorem w_946 : Cond.instanceMethod yX6_as ∈ Tw := tw_of (i := 946) (by decide +kernel) (by decide +kernel)
theorem mlL_60 : MLv RL 60 kX6_as 2 := ⟨⟨w_945, w_7, w_948, by decide, by decide, by decide +kernel⟩, w_946, w_947⟩
theorem w_949 : Cond.methodLink RX6 130 yX6_above ∈ Tw := tw_of (i := 949) (by decide +kernel) (by decide +kernel)
theorem w_951 : Cond.code yX6_above cX6_above 1 (some .int) ∈ Tw := tw_of (i := 951) (by decide +kernel) (by decide +kernel)
theorem w_950 : Cond.static yX6_above ∈ Tw := tw_of (i := 950) (by decide +kernel) (by decide +kernel)
theorem mlX6_130 : MLs RX6 130 kX6_above 1 := ⟨⟨w_949, w_7, w_951, by decide, by decide, by decide +kernel⟩, w_950⟩
theorem w_953 : Cond.methodLink RL 64 yX6_step ∈ Tw := tw_of (i := 953) (by decide +kernel) (by decide +kernel)
theorem w_956 : Cond.code yX6_step cX6_step 2 (some .int) ∈ Tw := tw_of (i := 956) (by decide +kernel) (by decide +kernel)
theorem w_955 : Cond.selects RX6 yX6_step yX6_step ∈ Tw := tw_of (i := 955) (by decide +kernel) (by decide +kernel)
theorem w_954 : Cond.instanceMethod yX6_step ∈ Tw := tw_of (i := 954) (by decide +kernel) (by decide +kernel)
theorem mlL_64 : MLv RL 64 kX6_step 1 := ⟨⟨w_953, w_7, w_956, by decide, by decide, by decide +kernel⟩, w_954, w_955⟩
theorem w_957 : Cond.methodLink RX6 134 yX6_goes ∈ Tw := tw_of (i := 957) (by decide +kernel) (by decide +kernel)
theorem w_960 : Cond.code yX6_goes cX6_goes 6 none ∈ Tw := tw_of (i := 960) (by decide +kernel) (by decide +kernel)
theorem ws_mlX6_134 : Cond.selects RX6 yX6_goes yX6_goes ∈ Tw := tw_sel (q := (⟨"BentPlainModel", "goes", "(I)V"⟩, 17)) (i := 30) (by decide +kernel)
theorem w_959 : Cond.instanceMethod yX6_goes ∈ Tw := tw_of (i := 959) (by decide +kernel) (by decide +kernel)
theorem mlX6_134 : MLv RX6 134 kX6_goes 1 := ⟨⟨w_957, w_7, w_960, by decide, by decide, by decide +kernel⟩, w_959, ws_mlX6_134⟩
theorem w_961 : Cond.methodLink RX6 112 yX6_onward ∈ Tw := tw_of (i := 961) (by decide +kernel) (by decide +kernel)
theorem w_964 : Cond.code yX6_onward cX6_onward 3 (some .int) ∈ Tw := tw_of (i := 964) (by decide +kernel) (by decide +kernel)
theorem ws_mlX6_112 : Cond.selects RX6 yX6_onward yX6_onward ∈ Tw := tw_sel (q := (⟨"BentPlainModel", "onward", "(I)I"⟩, 17)) (i := 31) (by decide +kernel)
theorem w_963 : Cond.instanceMethod yX6_onward ∈ Tw := tw_of (i := 963) (by decide +kernel) (by decide +kernel)
theorem mlX6_112 : MLv RX6 112 kX6_onward 1 := ⟨⟨w_961, w_7, w_964, by decide, by decide, by decide +kernel⟩, w_963, ws_mlX6_112⟩
theorem w_965 : Cond.methodLink RX6 115 yX6_atBump ∈ Tw := tw_of (i := 965) (by decide +kernel) (by decide +kernel)
theorem w_967 : Cond.code yX6_atBump cX6_atBump 1 (some .int) ∈ Tw := tw_of (i := 967) (by decide +kernel) (by decide +kernel)
theorem w_966 : Cond.static yX6_atBump ∈ Tw := tw_of (i := 966) (by decide +kernel) (by decide +kernel)
theorem mlX6_115 : MLs RX6 115 kX6_atBump 1 := ⟨⟨w_965, w_7, w_967, by decide, by decide, by decide +kernel⟩, w_966⟩
theorem w_968 : Cond.methodLink RX6 121 yX6_quarters ∈ Tw := tw_of (i := 968) (by decide +kernel) (by decide +kernel)
theorem w_970 : Cond.code yX6_quarters cX6_quarters 3 (some .int) ∈ Tw := tw_of (i := 970) (by decide +kernel) (by decide +kernel)
theorem w_969 : Cond.static yX6_quarters ∈ Tw := tw_of (i := 969) (by decide +kernel) (by decide +kernel)
theorem mlX6_121 : MLs RX6 121 kX6_quarters 3 := ⟨⟨w_968, w_7, w_970, by decide, by decide, by decide +kernel⟩, w_969⟩
theorem w_971 : Cond.methodLink RL 68 yX6_steps ∈ Tw := tw_of (i := 971) (by decide +kernel) (by decide +kernel)
theorem w_974 : Cond.code yX6_steps cX6_steps 3 (some .int) ∈ Tw := tw_of (i := 974) (by decide +kernel) (by decide +kernel)
theorem w_973 : Cond.selects RX6 yX6_steps yX6_steps ∈ Tw := tw_of (i := 973) (by decide +kernel) (by decide +kernel)
theorem w_972 : Cond.instanceMethod yX6_steps ∈ Tw := tw_of (i := 972) (by decide +kernel) (by decide +kernel)
theorem mlL_68 : MLv RL 68 kX6_steps 1 := ⟨⟨w_971, w_7, w_974, by decide, by decide, by decide +kernel⟩, w_972, w_973⟩
theorem w_976 : Cond.methodLink RX6 139 yX6_all ∈ Tw := tw_of (i := 976) (by decide +kernel) (by decide +kernel)
theorem w_979 : Cond.code yX6_all cX6_all 2 none ∈ Tw := tw_of (i := 979) (by decide +kernel) (by decide +kernel)
theorem ws_mlX6_139 : Cond.selects RX6 yX6_all yX6_all ∈ Tw := tw_sel (q := (⟨"BentPlainModel", "all", "()V"⟩, 17)) (i := 32) (by decide +kernel)
theorem w_978 : Cond.instanceMethod yX6_all ∈ Tw := tw_of (i := 978) (by decide +kernel) (by decide +kernel)
theorem mlX6_139 : MLv RX6 139 kX6_all 0 := ⟨⟨w_976, w_7, w_979, by decide, by decide, by decide +kernel⟩, w_978, ws_mlX6_139⟩
theorem w_980 : Cond.methodLink RX6 142 yX6_allMiles ∈ Tw := tw_of (i := 980) (by decide +kernel) (by decide +kernel)
theorem w_983 : Cond.code yX6_allMiles cX6_allMiles 3 (some .int) ∈ Tw := tw_of (i := 983) (by decide +kernel) (by decide +kernel)
theorem ws_mlX6_142 : Cond.selects RX6 yX6_allMiles yX6_allMiles ∈ Tw := tw_sel (q := (⟨"BentPlainModel", "allMiles", "()I"⟩, 17)) (i := 33) (by decide +kernel)
theorem w_982 : Cond.instanceMethod yX6_allMiles ∈ Tw := tw_of (i := 982) (by decide +kernel) (by decide +kernel)
theorem mlX6_142 : MLv RX6 142 kX6_allMiles 0 := ⟨⟨w_980, w_7, w_983, by decide, by decide, by decide +kernel⟩, w_982, ws_mlX6_142⟩
theorem w_984 : Cond.methodLink RL 72 yX6_on ∈ Tw := tw_of (i := 984) (by decide +kernel) (by decide +kernel)
theorem w_987 : Cond.code yX6_on cX6_on 5 (some .int) ∈ Tw := tw_of (i := 987) (by decide +kernel) (by decide +kernel)
theorem w_986 : Cond.selects RX6 yX6_on yX6_on ∈ Tw := tw_of (i := 986) (by decide +kernel) (by decide +kernel)
theorem w_985 : Cond.instanceMethod yX6_on ∈ Tw := tw_of (i := 985) (by decide +kernel) (by decide +kernel)
theorem mlL_72 : MLv RL 72 kX6_on 3 := ⟨⟨w_984, w_7, w_987, by decide, by decide, by decide +kernel⟩, w_985, w_986⟩
theorem w_988 : Cond.methodLink RX6 146 yX6_laysAside ∈ Tw := tw_of (i := 988) (by decide +kernel) (by decide +kernel)
theorem w_991 : Cond.code yX6_laysAside cX6_laysAside 2 none ∈ Tw := tw_of (i := 991) (by decide +kernel) (by decide +kernel)
theorem ws_mlX6_146 : Cond.selects RX6 yX6_laysAside yX6_laysAside ∈ Tw := tw_sel (q := (⟨"BentPlainModel", "laysAside", "()V"⟩, 17)) (i := 34) (by decide +kernel)
theorem w_990 : Cond.instanceMethod yX6_laysAside ∈ Tw := tw_of (i := 990) (by decide +kernel) (by decide +kernel)
theorem mlX6_146 : MLv RX6 146 kX6_laysAside 0 := ⟨⟨w_988, w_7, w_991, by decide, by decide, by decide +kernel⟩, w_990, ws_mlX6_146⟩
theorem w_992 : Cond.methodLink RX6 149 yX6_takesBack ∈ Tw := tw_of (i := 992) (by decide +kernel) (by decide +kernel)
theorem w_995 : Cond.code yX6_takesBack cX6_takesBack 3 (some .int) ∈ Tw := tw_of (i := 995) (by decide +kernel) (by decide +kernel)
theorem ws_mlX6_149 : Cond.selects RX6 yX6_takesBack yX6_takesBack ∈ Tw := tw_sel (q := (⟨"BentPlainModel", "takesBack", "(I)I"⟩, 17)) (i := 35) (by decide +kernel)
theorem w_994 : Cond.instanceMethod yX6_takesBack ∈ Tw := tw_of (i := 994) (by decide +kernel) (by decide +kernel)
theorem mlX6_149 : MLv RX6 149 kX6_takesBack 1 := ⟨⟨w_992, w_7, w_995, by decide, by decide, by decide +kernel⟩, w_994, ws_mlX6_149⟩
theorem w_996 : Cond.methodLink RL 76 yX6_when ∈ Tw := tw_of (i := 996) (by decide +kernel) (by decide +kernel)
theorem w_999 : Cond.code yX6_when cX6_when 4 (some .int) ∈ Tw := tw_of (i := 999) (by decide +kernel) (by decide +kernel)
theorem w_998 : Cond.selects RX6 yX6_when yX6_when ∈ Tw := tw_of (i := 998) (by decide +kernel) (by decide +kernel)
theorem w_997 : Cond.instanceMethod yX6_when ∈ Tw := tw_of (i := 997) (by decide +kernel) (by decide +kernel)
theorem mlL_76 : MLv RL 76 kX6_when 2 := ⟨⟨w_996, w_7, w_999, by decide, by decide, by decide +kernel⟩, w_997, w_998⟩
theorem w_1000 : Cond.methodLink RX6 152 yX6_orNone ∈ Tw := tw_of (i := 1000) (by decide +kernel) (by decide +kernel)
theorem w_1003 : Cond.code yX6_orNone cX6_orNone 3 (some .int) ∈ Tw := tw_of (i := 1003) (by decide +kernel) (by decide +kernel)
theorem ws_mlX6_152 : Cond.selects RX6 yX6_orNone yX6_orNone ∈ Tw := tw_sel (q := (⟨"BentPlainModel", "orNone", "(II)I"⟩, 17)) (i := 36) (by decide +kernel)
theorem w_1002 : Cond.instanceMethod yX6_orNone ∈ Tw := tw_of (i := 1002) (by decide +kernel) (by decide +kernel)
theorem mlX6_152 : MLv RX6 152 kX6_orNone 2 := ⟨⟨w_1000, w_7, w_1003, by decide, by decide, by decide +kernel⟩, w_1002, ws_mlX6_152⟩
theorem w_1004 : Cond.methodLink RL 80 yX6_back ∈ Tw := tw_of (i := 1004) (by decide +kernel) (by decide +kernel)
theorem w_1007 : Cond.code yX6_back cX6_back 4 (some .int) ∈ Tw := tw_of (i := 1007) (by decide +kernel) (by decide +kernel)
theorem w_1006 : Cond.selects RX6 yX6_back yX6_back ∈ Tw := tw_of (i := 1006) (by decide +kernel) (by decide +kernel)
theorem w_1005 : Cond.instanceMethod yX6_back ∈ Tw := tw_of (i := 1005) (by decide +kernel) (by decide +kernel)
theorem mlL_80 : MLv RL 80 kX6_back 1 := ⟨⟨w_1004, w_7, w_1007, by decide, by decide, by decide +kernel⟩, w_1005, w_1006⟩
theorem w_1008 : Cond.methodLink RL 84 yX6_meet ∈ Tw := tw_of (i := 1008) (by decide +kernel) (by decide +kernel)
theorem w_1011 : Cond.code yX6_meet cX6_meet 4 (some .int) ∈ Tw := tw_of (i := 1011) (by decide +kernel) (by decide +kernel)
theorem w_1010 : Cond.selects RX6 yX6_meet yX6_meet ∈ Tw := tw_of (i := 1010) (by decide +kernel) (by decide +kernel)
theorem w_1009 : Cond.instanceMethod yX6_meet ∈ Tw := tw_of (i := 1009) (by decide +kernel) (by decide +kernel)
theorem mlL_84 : MLv RL 84 kX6_meet 2 := ⟨⟨w_1008, w_7, w_1011, by decide, by decide, by decide +kernel⟩, w_1009, w_1010⟩
theorem w_1012 : Cond.methodLink RL 88 yX6_spares ∈ Tw := tw_of (i := 1012) (by decide +kernel) (by decide +kernel)
theorem w_1015 : Cond.code yX6_spares cX6_spares 4 (some .int) ∈ Tw := tw_of (i := 1015) (by decide +kernel) (by decide +kernel)
theorem w_1014 : Cond.selects RX6 yX6_spares yX6_spares ∈ Tw := tw_of (i := 1014) (by decide +kernel) (by decide +kernel)
theorem w_1013 : Cond.instanceMethod yX6_spares ∈ Tw := tw_of (i := 1013) (by decide +kernel) (by decide +kernel)
theorem mlL_88 : MLv RL 88 kX6_spares 1 := ⟨⟨w_1012, w_7, w_1015, by decide, by decide, by decide +kernel⟩, w_1013, w_1014⟩
theorem w_1016 : Cond.methodLink RL 92 yX6_closes ∈ Tw := tw_of (i := 1016) (by decide +kernel) (by decide +kernel)
theorem w_1019 : Cond.code yX6_closes cX6_closes 6 (some .int) ∈ Tw := tw_of (i := 1019) (by decide +kernel) (by decide +kernel)
theorem w_1018 : Cond.selects RX6 yX6_closes yX6_closes ∈ Tw := tw_of (i := 1018) (by decide +kernel) (by decide +kernel)
theorem w_1017 : Cond.instanceMethod yX6_closes ∈ Tw := tw_of (i := 1017) (by decide +kernel) (by decide +kernel)
theorem mlL_92 : MLv RL 92 kX6_closes 2 := ⟨⟨w_1016, w_7, w_1019, by decide, by decide, by decide +kernel⟩, w_1017, w_1018⟩
theorem w_1020 : Cond.methodLink RL 96 yX6_bumps ∈ Tw := tw_of (i := 1020) (by decide +kernel) (by decide +kernel)
theorem w_1023 : Cond.code yX6_bumps cX6_bumps 5 (some .int) ∈ Tw := tw_of (i := 1023) (by decide +kernel) (by decide +kernel)
theorem w_1022 : Cond.selects RX6 yX6_bumps yX6_bumps ∈ Tw := tw_of (i := 1022) (by decide +kernel) (by decide +kernel)
theorem w_1021 : Cond.instanceMethod yX6_bumps ∈ Tw := tw_of (i := 1021) (by decide +kernel) (by decide +kernel)
theorem mlL_96 : MLv RL 96 kX6_bumps 2 := ⟨⟨w_1020, w_7, w_1023, by decide, by decide, by decide +kernel⟩, w_1021, w_1022⟩
theorem w_1024 : Cond.methodLink RL 100 yX6_square ∈ Tw := tw_of (i := 1024) (by decide +kernel) (by decide +kernel)
theorem w_1027 : Cond.code yX6_square cX6_square 8 (some .int) ∈ Tw := tw_of (i := 1027) (by decide +kernel) (by decide +kernel)
theorem w_1026 : Cond.selects RX6 yX6_square yX6_square ∈ Tw := tw_of (i := 1026) (by decide +kernel) (by decide +kernel)
theorem w_1025 : Cond.instanceMethod yX6_square ∈ Tw := tw_of (i := 1025) (by decide +kernel) (by decide +kernel)
theorem mlL_100 : MLv RL 100 kX6_square 3 := ⟨⟨w_1024, w_7, w_1027, by decide, by decide, by decide +kernel⟩, w_1025, w_1026⟩
theorem w_1028 : Cond.methodLink RL 104 yX6_dine ∈ Tw := tw_of (i := 1028) (by decide +kernel) (by decide +kernel)
theorem w_1031 : Cond.code yX6_dine cX6_dine 8 (some .int) ∈ Tw := tw_of (i := 1031) (by decide +kernel) (by decide +kernel)
theorem w_1030 : Cond.selects RX6 yX6_dine yX6_dine ∈ Tw := tw_of (i := 1030) (by decide +kernel) (by decide +kernel)
theorem w_1029 : Cond.instanceMethod yX6_dine ∈ Tw := tw_of (i := 1029) (by decide +kernel) (by decide +kernel)
theorem mlL_104 : MLv RL 104 kX6_dine 4 := ⟨⟨w_1028, w_7, w_1031, by decide, by decide, by decide +kernel⟩, w_1029, w_1030⟩
theorem w_1032 : Cond.methodLink RL 108 yX6_sees ∈ Tw := tw_of (i := 1032) (by decide +kernel) (by decide +kernel)
theorem w_1035 : Cond.code yX6_sees cX6_sees 3 (some .int) ∈ Tw := tw_of (i := 1035) (by decide +kernel) (by decide +kernel)
theorem w_1034 : Cond.selects RX6 yX6_sees yX6_sees ∈ Tw := tw_of (i := 1034) (by decide +kernel) (by decide +kernel)
theorem w_1033 : Cond.instanceMethod yX6_sees ∈ Tw := tw_of (i := 1033) (by decide +kernel) (by decide +kernel)
theorem mlL_108 : MLv RL 108 kX6_sees 2 := ⟨⟨w_1032, w_7, w_1035, by decide, by decide, by decide +kernel⟩, w_1033, w_1034⟩
theorem w_1036 : Cond.methodLink RX6 155 yX6_seen ∈ Tw := tw_of (i := 1036) (by decide +kernel) (by decide +kernel)
theorem w_1039 : Cond.code yX6_seen cX6_seen 4 (some .int) ∈ Tw := tw_of (i := 1039) (by decide +kernel) (by decide +kernel)
theorem ws_mlX6_155 : Cond.selects RX6 yX6_seen yX6_seen ∈ Tw := tw_sel (q := (⟨"BentPlainModel", "seen", "(I)I"⟩, 17)) (i := 37) (by decide +kernel)
theorem w_1038 : Cond.instanceMethod yX6_seen ∈ Tw := tw_of (i := 1038) (by decide +kernel) (by decide +kernel)
theorem mlX6_155 : MLv RX6 155 kX6_seen 1 := ⟨⟨w_1036, w_7, w_1039, by decide, by decide, by decide +kernel⟩, w_1038, ws_mlX6_155⟩
theorem w_1040 : Cond.methodLink RL 112 yX6_twice ∈ Tw := tw_of (i := 1040) (by decide +kernel) (by decide +kernel)
theorem w_1043 : Cond.code yX6_twice cX6_twice 6 (some .int) ∈ Tw := tw_of (i := 1043) (by decide +kernel) (by decide +kernel)
theorem w_1042 : Cond.selects RX6 yX6_twice yX6_twice ∈ Tw := tw_of (i := 1042) (by decide +kernel) (by decide +kernel)
theorem w_1041 : Cond.instanceMethod yX6_twice ∈ Tw := tw_of (i := 1041) (by decide +kernel) (by decide +kernel)
theorem mlL_112 : MLv RL 112 kX6_twice 1 := ⟨⟨w_1040, w_7, w_1043, by decide, by decide, by decide +kernel⟩, w_1041, w_1042⟩
theorem w_1044 : Cond.methodLink RX6 158 yX6_ones ∈ Tw := tw_of (i := 1044) (by decide +kernel) (by decide +kernel)
theorem w_1046 : Cond.code yX6_ones cX6_ones 3 (some .int) ∈ Tw := tw_of (i := 1046) (by decide +kernel) (by decide +kernel)
theorem w_1045 : Cond.static yX6_ones ∈ Tw := tw_of (i := 1045) (by decide +kernel) (by decide +kernel)
theorem mlX6_158 : MLs RX6 158 kX6_ones 1 := ⟨⟨w_1044, w_7, w_1046, by decide, by decide, by decide +kernel⟩, w_1045⟩
theorem w_1047 : Cond.methodLink RL 116 yX6_about ∈ Tw := tw_of (i := 1047) (by decide +kernel) (by decide +kernel)
theorem w_1050 : Cond.code yX6_about cX6_about 4 (some .int) ∈ Tw := tw_of (i := 1050) (by decide +kernel) (by decide +kernel)
theorem w_1049 : Cond.selects RX6 yX6_about yX6_about ∈ Tw := tw_of (i := 1049) (by decide +kernel) (by decide +kernel)
theorem w_1048 : Cond.instanceMethod yX6_about ∈ Tw := tw_of (i := 1048) (by decide +kernel) (by decide +kernel)
theorem mlL_116 : MLv RL 116 kX6_about 2 := ⟨⟨w_1047, w_7, w_1050, by decide, by decide, by decide +kernel⟩, w_1048, w_1049⟩
theorem w_1051 : Cond.methodLink RX6 164 yX6_aboutOf ∈ Tw := tw_of (i := 1051) (by decide +kernel) (by decide +kernel)
theorem w_1054 : Cond.code yX6_aboutOf cX6_aboutOf 4 (some .int) ∈ Tw := tw_of (i := 1054) (by decide +kernel) (by decide +kernel)
theorem ws_mlX6_164 : Cond.selects RX6 yX6_aboutOf yX6_aboutOf ∈ Tw := tw_sel (q := (⟨"BentPlainModel", "aboutOf", "(I)I"⟩, 17)) (i := 38) (by decide +kernel)
theorem w_1053 : Cond.instanceMethod yX6_aboutOf ∈ Tw := tw_of (i := 1053) (by decide +kernel) (by decide +kernel)
theorem mlX6_164 : MLv RX6 164 kX6_aboutOf 1 := ⟨⟨w_1051, w_7, w_1054, by decide, by decide, by decide +kernel⟩, w_1053, ws_mlX6_164⟩
theorem w_1055 : Cond.methodLink RX6 161 yX6_beside ∈ Tw := tw_of (i := 1055) (by decide +kernel) (by decide +kernel)
theorem w_1058 : Cond.code yX6_beside cX6_beside 3 (some .int) ∈ Tw := tw_of (i := 1058) (by decide +kernel) (by decide +kernel)
theorem ws_mlX6_161 : Cond.selects RX6 yX6_beside yX6_beside ∈ Tw := tw_sel (q := (⟨"BentPlainModel", "beside", "(I)I"⟩, 17)) (i := 39) (by decide +kernel)
theorem w_1057 : Cond.instanceMethod yX6_beside ∈ Tw := tw_of (i := 1057) (by decide +kernel) (by decide +kernel)
theorem mlX6_161 : MLv RX6 161 kX6_beside 1 := ⟨⟨w_1055, w_7, w_1058, by decide, by decide, by decide +kernel⟩, w_1057, ws_mlX6_161⟩
theorem w_1059 : Cond.methodLink RL 121 yX6_corners ∈ Tw := tw_of (i := 1059) (by decide +kernel) (by decide +kernel)
theorem w_1062 : Cond.code yX6_corners cX6_corners 3 (some .int) ∈ Tw := tw_of (i := 1062) (by decide +kernel) (by decide +kernel)
theorem w_1061 : Cond.selects RX6 yX6_corners yX6_corners ∈ Tw := tw_of (i := 1061) (by decide +kernel) (by decide +kernel)
theorem w_1060 : Cond.instanceMethod yX6_corners ∈ Tw := tw_of (i := 1060) (by decide +kernel) (by decide +kernel)
theorem mlL_121 : MLv RL 121 kX6_corners 0 := ⟨⟨w_1059, w_7, w_1062, by decide, by decide, by decide +kernel⟩, w_1060, w_1061⟩
theorem w_1063 : Cond.methodLink RX6 167 yX6_isFirst ∈ Tw := tw_of (i := 1063) (by decide +kernel) (by decide +kernel)
theorem w_1066 : Cond.code yX6_isFirst cX6_isFirst 4 (some .boolean) ∈ Tw := tw_of (i := 1066) (by decide +kernel) (by decide +kernel)
theorem ws_mlX6_167 : Cond.selects RX6 yX6_isFirst yX6_isFirst ∈ Tw := tw_sel (q := (⟨"BentPlainModel", "isFirst", "(I)Z"⟩, 17)) (i := 40) (by decide +kernel)
theorem w_1065 : Cond.instanceMethod yX6_isFirst ∈ Tw := tw_of (i := 1065) (by decide +kernel) (by decide +kernel)
theorem mlX6_167 : MLv RX6 167 kX6_isFirst 1 := ⟨⟨w_1063, w_7, w_1066, by decide, by decide, by decide +kernel⟩, w_1065, ws_mlX6_167⟩
theorem w_1067 : Cond.methodLink RL 125 yX6_excess ∈ Tw := tw_of (i := 1067) (by decide +kernel) (by decide +kernel)
theorem w_1070 : Cond.code yX6_excess cX6_excess 3 (some .int) ∈ Tw := tw_of (i := 1070) (by decide +kernel) (by decide +kernel)
theorem w_1069 : Cond.selects RX6 yX6_excess yX6_excess ∈ Tw := tw_of (i := 1069) (by decide +kernel) (by decide +kernel)
theorem w_1068 : Cond.instanceMethod yX6_excess ∈ Tw := tw_of (i := 1068) (by decide +kernel) (by decide +kernel)
theorem mlL_125 : MLv RL 125 kX6_excess 0 := ⟨⟨w_1067, w_7, w_1070, by decide, by decide, by decide +kernel⟩, w_1068, w_1069⟩
theorem w_1071 : Cond.methodLink RL 129 yX6_bent ∈ Tw := tw_of (i := 1071) (by decide +kernel) (by decide +kernel)
theorem w_1074 : Cond.code yX6_bent cX6_bent 3 (some .int) ∈ Tw := tw_of (i := 1074) (by decide +kernel) (by decide +kernel)
theorem w_1073 : Cond.selects RX6 yX6_bent yX6_bent ∈ Tw := tw_of (i := 1073) (by decide +kernel) (by decide +kernel)
theorem w_1072 : Cond.instanceMethod yX6_bent ∈ Tw := tw_of (i := 1072) (by decide +kernel) (by decide +kernel)
theorem mlL_129 : MLv RL 129 kX6_bent 0 := ⟨⟨w_1071, w_7, w_1074, by decide, by decide, by decide +kernel⟩, w_1072, w_1073⟩
theorem w_1075 : Cond.methodLink RL 133 yX6_parts ∈ Tw := tw_of (i := 1075) (by decide +kernel) (by decide +kernel)
theorem w_1078 : Cond.code yX6_parts cX6_parts 6 (some .int) ∈ Tw := tw_of (i := 1078) (by decide +kernel) (by decide +kernel)
theorem w_1077 : Cond.selects RX6 yX6_parts yX6_parts ∈ Tw := tw_of (i := 1077) (by decide +kernel) (by decide +kernel)
theorem w_1076 : Cond.instanceMethod yX6_parts ∈ Tw := tw_of (i := 1076) (by decide +kernel) (by decide +kernel)
theorem mlL_133 : MLv RL 133 kX6_parts 0 := ⟨⟨w_1075, w_7, w_1078, by decide, by decide, by decide +kernel⟩, w_1076, w_1077⟩
theorem w_1079 : Cond.methodLink RX6 170 yX6_spread ∈ Tw := tw_of (i := 1079) (by decide +kernel) (by decide +kernel)
theorem w_1082 : Cond.code yX6_spread cX6_spread 4 (some .int) ∈ Tw := tw_of (i := 1082) (by decide +kernel) (by decide +kernel)
theorem ws_mlX6_170 : Cond.selects RX6 yX6_spread yX6_spread ∈ Tw := tw_sel (q := (⟨"BentPlainModel", "spread", "(I)I"⟩, 17)) (i := 41) (by decide +kernel)
theorem w_1081 : Cond.instanceMethod yX6_spread ∈ Tw := tw_of (i := 1081) (by decide +kernel) (by decide +kernel)
theorem mlX6_170 : MLv RX6 170 kX6_spread 1 := ⟨⟨w_1079, w_7, w_1082, by decide, by decide, by decide +kernel⟩, w_1081, ws_mlX6_170⟩
theorem w_1083 : Cond.methodLink RL 137 yX6_far ∈ Tw := tw_of (i := 1083) (by decide +kernel) (by decide +kernel)
theorem w_1086 : Cond.code yX6_far cX6_far 3 (some .int) ∈ Tw := tw_of (i := 1086) (by decide +kernel) (by decide +kernel)
theorem w_1085 : Cond.selects RX6 yX6_far yX6_far ∈ Tw := tw_of (i := 1085) (by decide +kernel) (by decide +kernel)
theorem w_1084 : Cond.instanceMethod yX6_far ∈ Tw := tw_of (i := 1084) (by decide +kernel) (by decide +kernel)
theorem mlL_137 : MLv RL 137 kX6_far 2 := ⟨⟨w_1083, w_7, w_1086, by decide, by decide, by decide +kernel⟩, w_1084, w_1085⟩
theorem w_1087 : Cond.methodLink RX6 174 yX6_farOf ∈ Tw := tw_of (i := 1087) (by decide +kernel) (by decide +kernel)
theorem w_1090 : Cond.code yX6_farOf cX6_farOf 5 (some .int) ∈ Tw := tw_of (i := 1090) (by decide +kernel) (by decide +kernel)
theorem ws_mlX6_174 : Cond.selects RX6 yX6_farOf yX6_farOf ∈ Tw := tw_sel (q := (⟨"BentPlainModel", "farOf", "(II)I"⟩, 17)) (i := 42) (by decide +kernel)
theorem w_1089 : Cond.instanceMethod yX6_farOf ∈ Tw := tw_of (i := 1089) (by decide +kernel) (by decide +kernel)
theorem mlX6_174 : MLv RX6 174 kX6_farOf 2 := ⟨⟨w_1087, w_7, w_1090, by decide, by decide, by decide +kernel⟩, w_1089, ws_mlX6_174⟩
theorem w_1093 : Cond.methodLink RL 141 yX6_smooth ∈ Tw := tw_of (i := 1093) (by decide +kernel) (by decide +kernel)
theorem w_1096 : Cond.code yX6_smooth cX6_smooth 7 (some .int) ∈ Tw := tw_of (i := 1096) (by decide +kernel) (by decide +kernel)
theorem w_1095 : Cond.selects RX6 yX6_smooth yX6_smooth ∈ Tw := tw_of (i := 1095) (by decide +kernel) (by decide +kernel)
theorem w_1094 : Cond.instanceMethod yX6_smooth ∈ Tw := tw_of (i := 1094) (by decide +kernel) (by decide +kernel)
theorem mlL_141 : MLv RL 141 kX6_smooth 2 := ⟨⟨w_1093, w_7, w_1096, by decide, by decide, by decide +kernel⟩, w_1094, w_1095⟩
theorem w_1097 : Cond.methodLink RL 145 yX6_turns ∈ Tw := tw_of (i := 1097) (by decide +kernel) (by decide +kernel)
theorem w_1100 : Cond.code yX6_turns cX6_turns 10 (some .int) ∈ Tw := tw_of (i := 1100) (by decide +kernel) (by decide +kernel)
theorem w_1099 : Cond.selects RX6 yX6_turns yX6_turns ∈ Tw := tw_of (i := 1099) (by decide +kernel) (by decide +kernel)
theorem w_1098 : Cond.instanceMethod yX6_turns ∈ Tw := tw_of (i := 1098) (by decide +kernel) (by decide +kernel)
theorem mlL_145 : MLv RL 145 kX6_turns 3 := ⟨⟨w_1097, w_7, w_1100, by decide, by decide, by decide +kernel⟩, w_1098, w_1099⟩
theorem w_1101 : Cond.methodLink RL 149 yX6_within ∈ Tw := tw_of (i := 1101) (by decide +kernel) (by decide +kernel)
theorem w_1104 : Cond.code yX6_within cX6_within 5 (some .int) ∈ Tw := tw_of (i := 1104) (by decide +kernel) (by decide +kernel)
theorem w_1103 : Cond.selects RX6 yX6_within yX6_within ∈ Tw := tw_of (i := 1103) (by decide +kernel) (by decide +kernel)
theorem w_1102 : Cond.instanceMethod yX6_within ∈ Tw := tw_of (i := 1102) (by decide +kernel) (by decide +kernel)
theorem mlL_149 : MLv RL 149 kX6_within 2 := ⟨⟨w_1101, w_7, w_1104, by decide, by decide, by decide +kernel⟩, w_1102, w_1103⟩
theorem w_1106 : Cond.methodLink RL 153 yX6_mends ∈ Tw := tw_of (i := 1106) (by decide +kernel) (by decide +kernel)
theorem w_1109 : Cond.code yX6_mends cX6_mends 8 (some .int) ∈ Tw := tw_of (i := 1109) (by decide +kernel) (by decide +kernel)
theorem w_1108 : Cond.selects RX6 yX6_mends yX6_mends ∈ Tw := tw_of (i := 1108) (by decide +kernel) (by decide +kernel)
theorem w_1107 : Cond.instanceMethod yX6_mends ∈ Tw := tw_of (i := 1107) (by decide +kernel) (by decide +kernel)
theorem mlL_153 : MLv RL 153 kX6_mends 2 := ⟨⟨w_1106, w_7, w_1109, by decide, by decide, by decide +kernel⟩, w_1107, w_1108⟩
theorem w_1110 : Cond.methodLink RL 157 yX6_feed ∈ Tw := tw_of (i := 1110) (by decide +kernel) (by decide +kernel)
theorem w_1113 : Cond.code yX6_feed cX6_feed 4 (some .int) ∈ Tw := tw_of (i := 1113) (by decide +kernel) (by decide +kernel)
theorem w_1112 : Cond.selects RX6 yX6_feed yX6_feed ∈ Tw := tw_of (i := 1112) (by decide +kernel) (by decide +kernel)
theorem w_1111 : Cond.instanceMethod yX6_feed ∈ Tw := tw_of (i := 1111) (by decide +kernel) (by decide +kernel)
theorem mlL_157 : MLv RL 157 kX6_feed 2 := ⟨⟨w_1110, w_7, w_1113, by decide, by decide, by decide +kernel⟩, w_1111, w_1112⟩
theorem w_1115 : Cond.methodLink RL 161 yX6_wipe ∈ Tw := tw_of (i := 1115) (by decide +kernel) (by decide +kernel)
theorem w_1118 : Cond.code yX6_wipe cX6_wipe 2 (some .int) ∈ Tw := tw_of (i := 1118) (by decide +kernel) (by decide +kernel)
theorem w_1117 : Cond.selects RX6 yX6_wipe yX6_wipe ∈ Tw := tw_of (i := 1117) (by decide +kernel) (by decide +kernel)
theorem w_1116 : Cond.instanceMethod yX6_wipe ∈ Tw := tw_of (i := 1116) (by decide +kernel) (by decide +kernel)
theorem mlL_161 : MLv RL 161 kX6_wipe 0 := ⟨⟨w_1115, w_7, w_1118, by decide, by decide, by decide +kernel⟩, w_1116, w_1117⟩
theorem w_1119 : Cond.methodLink RL 165 yX6_plain ∈ Tw := tw_of (i := 1119) (by decide +kernel) (by decide +kernel)
theorem w_1122 : Cond.code yX6_plain cX6_plain 2 (some .int) ∈ Tw := tw_of (i := 1122) (by decide +kernel) (by decide +kernel)
theorem w_1121 : Cond.selects RX6 yX6_plain yX6_plain ∈ Tw := tw_of (i := 1121) (by decide +kernel) (by decide +kernel)
theorem w_1120 : Cond.instanceMethod yX6_plain ∈ Tw := tw_of (i := 1120) (by decide +kernel) (by decide +kernel)
theorem mlL_165 : MLv RL 165 kX6_plain 0 := ⟨⟨w_1119, w_7, w_1122, by decide, by decide, by decide +kernel⟩, w_1120, w_1121⟩
theorem w_1123 : Cond.methodLink RX6 289 yX6_saves ∈ Tw := tw_of (i := 1123) (by decide +kernel) (by decide +kernel)
theorem w_1126 : Cond.code yX6_saves cX6_saves 2 none ∈ Tw := tw_of (i := 1126) (by decide +kernel) (by decide +kernel)
theorem ws_mlX6_289 : Cond.selects RX6 yX6_saves yX6_saves ∈ Tw := tw_sel (q := (⟨"BentPlainModel", "saves", "()V"⟩, 17)) (i := 43) (by decide +kernel)
theorem w_1125 : Cond.instanceMethod yX6_saves ∈ Tw := tw_of (i := 1125) (by decide +kernel) (by decide +kernel)
theorem mlX6_289 : MLv RX6 289 kX6_saves 0 := ⟨⟨w_1123, w_7, w_1126, by decide, by decide, by decide +kernel⟩, w_1125, ws_mlX6_289⟩
theorem w_1127 : Cond.methodLink RX6 213 yX6_token ∈ Tw := tw_of (i := 1127) (by decide +kernel) (by decide +kernel)
theorem w_1130 : Cond.code yX6_token cX6_token 3 none ∈ Tw := tw_of (i := 1130) (by decide +kernel) (by decide +kernel)
theorem ws_mlX6_213 : Cond.selects RX6 yX6_token yX6_token ∈ Tw := tw_sel (q := (⟨"BentPlainModel", "token", "()V"⟩, 17)) (i := 44) (by decide +kernel)
theorem w_1129 : Cond.instanceMethod yX6_token ∈ Tw := tw_of (i := 1129) (by decide +kernel) (by decide +kernel)
theorem mlX6_213 : MLv RX6 213 kX6_token 0 := ⟨⟨w_1127, w_7, w_1130, by decide, by decide, by decide +kernel⟩, w_1129, ws_mlX6_213⟩
theorem w_1131 : Cond.methodLink RX6 200 yX6_byteAt ∈ Tw := tw_of (i := 1131) (by decide +kernel) (by decide +kernel)
theorem w_1134 : Cond.code yX6_byteAt cX6_byteAt 2 (some .int) ∈ Tw := tw_of (i := 1134) (by decide +kernel) (by decide +kernel)
theorem ws_mlX6_200 : Cond.selects RX6 yX6_byteAt yX6_byteAt ∈ Tw := tw_sel (q := (⟨"BentPlainModel", "byteAt", "(I)I"⟩, 17)) (i := 45) (by decide +kernel)
theorem w_1133 : Cond.instanceMethod yX6_byteAt ∈ Tw := tw_of (i := 1133) (by decide +kernel) (by decide +kernel)
theorem mlX6_200 : MLv RX6 200 kX6_byteAt 1 := ⟨⟨w_1131, w_7, w_1134, by decide, by decide, by decide +kernel⟩, w_1133, ws_mlX6_200⟩
theorem w_1135 : Cond.methodLink RX6 203 yX6_isLetter ∈ Tw := tw_of (i := 1135) (by decide +kernel) (by decide +kernel)
theorem w_1137 : Cond.code yX6_isLetter cX6_isLetter 1 (some .boolean) ∈ Tw := tw_of (i := 1137) (by decide +kernel) (by decide +kernel)
theorem w_1136 : Cond.static yX6_isLetter ∈ Tw := tw_of (i := 1136) (by decide +kernel) (by decide +kernel)
theorem mlX6_203 : MLs RX6 203 kX6_isLetter 1 := ⟨⟨w_1135, w_7, w_1137, by decide, by decide, by decide +kernel⟩, w_1136⟩
theorem w_1140 : Cond.methodLink RX6 206 yX6_isDigit ∈ Tw := tw_of (i := 1140) (by decide +kernel) (by decide +kernel)
theorem w_1142 : Cond.code yX6_isDigit cX6_isDigit 1 (some .boolean) ∈ Tw := tw_of (i := 1142) (by decide +kernel) (by decide +kernel)
theorem w_1141 : Cond.static yX6_isDigit ∈ Tw := tw_of (i := 1141) (by decide +kernel) (by decide +kernel)
theorem mlX6_206 : MLs RX6 206 kX6_isDigit 1 := ⟨⟨w_1140, w_7, w_1142, by decide, by decide, by decide +kernel⟩, w_1141⟩
theorem w_1145 : Cond.methodLink RX6 292 yX6_item ∈ Tw := tw_of (i := 1145) (by decide +kernel) (by decide +kernel)
theorem w_1148 : Cond.code yX6_item cX6_item 4 none ∈ Tw := tw_of (i := 1148) (by decide +kernel) (by decide +kernel)
theorem ws_mlX6_292 : Cond.selects RX6 yX6_item yX6_item ∈ Tw := tw_sel (q := (⟨"BentPlainModel", "item", "()V"⟩, 17)) (i := 46) (by decide +kernel)
theorem w_1147 : Cond.instanceMethod yX6_item ∈ Tw := tw_of (i := 1147) (by decide +kernel) (by decide +kernel)
theorem mlX6_292 : MLv RX6 292 kX6_item 0 := ⟨⟨w_1145, w_7, w_1148, by decide, by decide, by decide +kernel⟩, w_1147, ws_mlX6_292⟩
theorem w_1149 : Cond.methodLink RX6 268 yX6_kindHere ∈ Tw := tw_of (i := 1149) (by decide +kernel) (by decide +kernel)
theorem w_1152 : Cond.code yX6_kindHere cX6_kindHere 3 (some .int) ∈ Tw := tw_of (i := 1152) (by decide +kernel) (by decide +kernel)
theorem ws_mlX6_268 : Cond.selects RX6 yX6_kindHere yX6_kindHere ∈ Tw := tw_sel (q := (⟨"BentPlainModel", "kindHere", "()I"⟩, 17)) (i := 47) (by decide +kernel)
theorem w_1151 : Cond.instanceMethod yX6_kindHere ∈ Tw := tw_of (i := 1151) (by decide +kernel) (by decide +kernel)
theorem mlX6_268 : MLv RX6 268 kX6_kindHere 0 := ⟨⟨w_1149, w_7, w_1152, by decide, by decide, by decide +kernel⟩, w_1151, ws_mlX6_268⟩
theorem w_1153 : Cond.methodLink RX6 227 yX6_word ∈ Tw := tw_of (i := 1153) (by decide +kernel) (by decide +kernel)
theorem w_1156 : Cond.code yX6_word cX6_word 4 (some .long) ∈ Tw := tw_of (i := 1156) (by decide +kernel) (by decide +kernel)
theorem ws_mlX6_227 : Cond.selects RX6 yX6_word yX6_word ∈ Tw := tw_sel (q := (⟨"BentPlainModel", "word", "()J"⟩, 17)) (i := 48) (by decide +kernel)
theorem w_1155 : Cond.instanceMethod yX6_word ∈ Tw := tw_of (i := 1155) (by decide +kernel) (by decide +kernel)
theorem mlX6_227 : MLv RX6 227 kX6_word 0 := ⟨⟨w_1153, w_7, w_1156, by decide, by decide, by decide +kernel⟩, w_1155, ws_mlX6_227⟩
theorem w_1165 : Cond.methodLink RX6 271 yX6_walkerItem ∈ Tw := tw_of (i := 1165) (by decide +kernel) (by decide +kernel)
theorem w_1168 : Cond.code yX6_walkerItem cX6_walkerItem 5 none ∈ Tw := tw_of (i := 1168) (by decide +kernel) (by decide +kernel)
theorem ws_mlX6_271 : Cond.selects RX6 yX6_walkerItem yX6_walkerItem ∈ Tw := tw_sel (q := (⟨"BentPlainModel", "walkerItem", "(I)V"⟩, 17)) (i := 49) (by decide +kernel)
theorem w_1167 : Cond.instanceMethod yX6_walkerItem ∈ Tw := tw_of (i := 1167) (by decide +kernel) (by decide +kernel)
theorem mlX6_271 : MLv RX6 271 kX6_walkerItem 1 := ⟨⟨w_1165, w_7, w_1168, by decide, by decide, by decide +kernel⟩, w_1167, ws_mlX6_271⟩
theorem w_1169 : Cond.methodLink RX6 223 yX6_wants ∈ Tw := tw_of (i := 1169) (by decide +kernel) (by decide +kernel)
theorem w_1172 : Cond.code yX6_wants cX6_wants 2 none ∈ Tw := tw_of (i := 1172) (by decide +kernel) (by decide +kernel)
theorem ws_mlX6_223 : Cond.selects RX6 yX6_wants yX6_wants ∈ Tw := tw_sel (q := (⟨"BentPlainModel", "wants", "(Z)V"⟩, 17)) (i := 50) (by decide +kernel)
theorem w_1171 : Cond.instanceMethod yX6_wants ∈ Tw := tw_of (i := 1171) (by decide +kernel) (by decide +kernel)
theorem mlX6_223 : MLv RX6 223 kX6_wants 1 := ⟨⟨w_1169, w_7, w_1172, by decide, by decide, by decide +kernel⟩, w_1171, ws_mlX6_223⟩
theorem w_1174 : Cond.methodLink RX6 259 yX6_fieldHere ∈ Tw := tw_of (i := 1174) (by decide +kernel) (by decide +kernel)
theorem w_1177 : Cond.code yX6_fieldHere cX6_fieldHere 1 none ∈ Tw := tw_of (i := 1177) (by decide +kernel) (by decide +kernel)
theorem ws_mlX6_259 : Cond.selects RX6 yX6_fieldHere yX6_fieldHere ∈ Tw := tw_sel (q := (⟨"BentPlainModel", "fieldHere", "()V"⟩, 17)) (i := 51) (by decide +kernel)
theorem w_1176 : Cond.instanceMethod yX6_fieldHere ∈ Tw := tw_of (i := 1176) (by decide +kernel) (by decide +kernel)
theorem mlX6_259 : MLv RX6 259 kX6_fieldHere 0 := ⟨⟨w_1174, w_7, w_1177, by decide, by decide, by decide +kernel⟩, w_1176, ws_mlX6_259⟩
theorem w_1178 : Cond.methodLink RX6 243 yX6_number ∈ Tw := tw_of (i := 1178) (by decide +kernel) (by decide +kernel)
theorem w_1181 : Cond.code yX6_number cX6_number 6 none ∈ Tw := tw_of (i := 1181) (by decide +kernel) (by decide +kernel)
theorem ws_mlX6_243 : Cond.selects RX6 yX6_number yX6_number ∈ Tw := tw_sel (q := (⟨"BentPlainModel", "number", "(II)V"⟩, 17)) (i := 52) (by decide +kernel)
theorem w_1180 : Cond.instanceMethod yX6_number ∈ Tw := tw_of (i := 1180) (by decide +kernel) (by decide +kernel)
theorem mlX6_243 : MLv RX6 243 kX6_number 2 := ⟨⟨w_1178, w_7, w_1181, by decide, by decide, by decide +kernel⟩, w_1180, ws_mlX6_243⟩
theorem w_1182 : Cond.methodLink RX6 254 yX6_sideNamed ∈ Tw := tw_of (i := 1182) (by decide +kernel) (by decide +kernel)
theorem w_1185 : Cond.code yX6_sideNamed cX6_sideNamed 3 (some .int) ∈ Tw := tw_of (i := 1185) (by decide +kernel) (by decide +kernel)
theorem ws_mlX6_254 : Cond.selects RX6 yX6_sideNamed yX6_sideNamed ∈ Tw := tw_sel (q := (⟨"BentPlainModel", "sideNamed", "()I"⟩, 17)) (i := 53) (by decide +kernel)
theorem w_1184 : Cond.instanceMethod yX6_sideNamed ∈ Tw := tw_of (i := 1184) (by decide +kernel) (by decide +kernel)
theorem mlX6_254 : MLv RX6 254 kX6_sideNamed 0 := ⟨⟨w_1182, w_7, w_1185, by decide, by decide, by decide +kernel⟩, w_1184, ws_mlX6_254⟩
theorem w_1191 : Cond.methodLink RX6 276 yX6_fieldItem ∈ Tw := tw_of (i := 1191) (by decide +kernel) (by decide +kernel)
theorem w_1194 : Cond.code yX6_fieldItem cX6_fieldItem 3 none ∈ Tw := tw_of (i := 1194) (by decide +kernel) (by decide +kernel)
theorem ws_mlX6_276 : Cond.selects RX6 yX6_fieldItem yX6_fieldItem ∈ Tw := tw_sel (q := (⟨"BentPlainModel", "fieldItem", "()V"⟩, 17)) (i := 54) (by decide +kernel)
theorem w_1193 : Cond.instanceMethod yX6_fieldItem ∈ Tw := tw_of (i := 1193) (by decide +kernel) (by decide +kernel)
theorem mlX6_276 : MLv RX6 276 kX6_fieldItem 0 := ⟨⟨w_1191, w_7, w_1194, by decide, by decide, by decide +kernel⟩, w_1193, ws_mlX6_276⟩
theorem w_1197 : Cond.methodLink RX6 281 yX6_glueItem ∈ Tw := tw_of (i := 1197) (by decide +kernel) (by decide +kernel)
theorem w_1200 : Cond.code yX6_glueItem cX6_glueItem 3 none ∈ Tw := tw_of (i := 1200) (by decide +kernel) (by decide +kernel)
theorem ws_mlX6_281 : Cond.selects RX6 yX6_glueItem yX6_glueItem ∈ Tw := tw_sel (q := (⟨"BentPlainModel", "glueItem", "()V"⟩, 17)) (i := 55) (by decide +kernel)
theorem w_1199 : Cond.instanceMethod yX6_glueItem ∈ Tw := tw_of (i := 1199) (by decide +kernel) (by decide +kernel)
theorem mlX6_281 : MLv RX6 281 kX6_glueItem 0 := ⟨⟨w_1197, w_7, w_1200, by decide, by decide, by decide +kernel⟩, w_1199, ws_mlX6_281⟩
theorem w_1201 : Cond.methodLink RX6 262 yX6_sideHere ∈ Tw := tw_of (i := 1201) (by decide +kernel) (by decide +kernel)
theorem w_1204 : Cond.code yX6_sideHere cX6_sideHere 6 (some .int) ∈ Tw := tw_of (i := 1204) (by decide +kernel) (by decide +kernel)
theorem ws_mlX6_262 : Cond.selects RX6 yX6_sideHere yX6_sideHere ∈ Tw := tw_sel (q := (⟨"BentPlainModel", "sideHere", "(IZI)I"⟩, 17)) (i := 56) (by decide +kernel)
theorem w_1203 : Cond.instanceMethod yX6_sideHere ∈ Tw := tw_of (i := 1203) (by decide +kernel) (by decide +kernel)
theorem mlX6_262 : MLv RX6 262 kX6_sideHere 3 := ⟨⟨w_1201, w_7, w_1204, by decide, by decide, by decide +kernel⟩, w_1203, ws_mlX6_262⟩
theorem w_1206 : Cond.methodLink RX6 286 yX6_cutItem ∈ Tw := tw_of (i := 1206) (by decide +kernel) (by decide +kernel)
theorem w_1209 : Cond.code yX6_cutItem cX6_cutItem 2 none ∈ Tw := tw_of (i := 1209) (by decide +kernel) (by decide +kernel)
theorem ws_mlX6_286 : Cond.selects RX6 yX6_cutItem yX6_cutItem ∈ Tw := tw_sel (q := (⟨"BentPlainModel", "cutItem", "()V"⟩, 17)) (i := 57) (by decide +kernel)
theorem w_1208 : Cond.instanceMethod yX6_cutItem ∈ Tw := tw_of (i := 1208) (by decide +kernel) (by decide +kernel)
theorem mlX6_286 : MLv RX6 286 kX6_cutItem 0 := ⟨⟨w_1206, w_7, w_1209, by decide, by decide, by decide +kernel⟩, w_1208, ws_mlX6_286⟩
theorem w_1210 : Cond.methodLink RX6 295 yX6_putsBack ∈ Tw := tw_of (i := 1210) (by decide +kernel) (by decide +kernel)
theorem w_1213 : Cond.code yX6_putsBack cX6_putsBack 2 none ∈ Tw := tw_of (i := 1213) (by decide +kernel) (by decide +kernel)
theorem ws_mlX6_295 : Cond.selects RX6 yX6_putsBack yX6_putsBack ∈ Tw := tw_sel (q := (⟨"BentPlainModel", "putsBack", "()V"⟩, 17)) (i := 58) (by decide +kernel)
theorem w_1212 : Cond.instanceMethod yX6_putsBack ∈ Tw := tw_of (i := 1212) (by decide +kernel) (by decide +kernel)
theorem mlX6_295 : MLv RX6 295 kX6_putsBack 0 := ⟨⟨w_1210, w_7, w_1213, by decide, by decide, by decide +kernel⟩, w_1212, ws_mlX6_295⟩
theorem w_1214 : Cond.methodLink RL 169 yX6_sheet ∈ Tw := tw_of (i := 1214) (by decide +kernel) (by decide +kernel)
theorem w_1217 : Cond.code yX6_sheet cX6_sheet 5 (some .int) ∈ Tw := tw_of (i := 1217) (by decide +kernel) (by decide +kernel)
theorem w_1216 : Cond.selects RX6 yX6_sheet yX6_sheet ∈ Tw := tw_of (i := 1216) (by decide +kernel) (by decide +kernel)
theorem w_1215 : Cond.instanceMethod yX6_sheet ∈ Tw := tw_of (i := 1215) (by decide +kernel) (by decide +kernel)
theorem mlL_169 : MLv RL 169 kX6_sheet 3 := ⟨⟨w_1214, w_7, w_1217, by decide, by decide, by decide +kernel⟩, w_1215, w_1216⟩
theorem w_1218 : Cond.methodLink RX6 298 yX6_isOne ∈ Tw := tw_of (i := 1218) (by decide +kernel) (by decide +kernel)
theorem w_1220 : Cond.code yX6_isOne cX6_isOne 1 (some .boolean) ∈ Tw := tw_of (i := 1220) (by decide +kernel) (by decide +kernel)
theorem w_1219 : Cond.static yX6_isOne ∈ Tw := tw_of (i := 1219) (by decide +kernel) (by decide +kernel)
theorem mlX6_298 : MLs RX6 298 kX6_isOne 1 := ⟨⟨w_1218, w_7, w_1220, by decide, by decide, by decide +kernel⟩, w_1219⟩
theorem w_1222 : Cond.methodLink RL 176 yX6_write ∈ Tw := tw_of (i := 1222) (by decide +kernel) (by decide +kernel)
theorem w_1225 : Cond.code yX6_write cX6_write 8 (some .long) ∈ Tw := tw_of (i := 1225) (by decide +kernel) (by decide +kernel)
theorem w_1224 : Cond.selects RX6 yX6_write yX6_write ∈ Tw := tw_of (i := 1224) (by decide +kernel) (by decide +kernel)
theorem w_1223 : Cond.instanceMethod yX6_write ∈ Tw := tw_of (i := 1223) (by decide +kernel) (by decide +kernel)
theorem mlL_176 : MLv RL 176 kX6_write 3 := ⟨⟨w_1222, w_7, w_1225, by decide, by decide, by decide +kernel⟩, w_1223, w_1224⟩
theorem w_1226 : Cond.methodLink RX6 303 yX6_wrong ∈ Tw := tw_of (i := 1226) (by decide +kernel) (by decide +kernel)
theorem w_1229 : Cond.code yX6_wrong cX6_wrong 2 (some .int) ∈ Tw := tw_of (i := 1229) (by decide +kernel) (by decide +kernel)
theorem ws_mlX6_303 : Cond.selects RX6 yX6_wrong yX6_wrong ∈ Tw := tw_sel (q := (⟨"BentPlainModel", "wrong", "(I)I"⟩, 17)) (i := 59) (by decide +kernel)
theorem w_1228 : Cond.instanceMethod yX6_wrong ∈ Tw := tw_of (i := 1228) (by decide +kernel) (by decide +kernel)
theorem mlX6_303 : MLv RX6 303 kX6_wrong 1 := ⟨⟨w_1226, w_7, w_1229, by decide, by decide, by decide +kernel⟩, w_1228, ws_mlX6_303⟩
theorem w_1231 : Cond.methodLink RX6 306 yX6_narrowed ∈ Tw := tw_of (i := 1231) (by decide +kernel) (by decide +kernel)
theorem w_1233 : Cond.code yX6_narrowed cX6_narrowed 3 (some .long) ∈ Tw := tw_of (i := 1233) (by decide +kernel) (by decide +kernel)
theorem w_1232 : Cond.static yX6_narrowed ∈ Tw := tw_of (i := 1232) (by decide +kernel) (by decide +kernel)
theorem mlX6_306 : MLs RX6 306 kX6_narrowed 2 := ⟨⟨w_1231, w_7, w_1233, by decide, by decide, by decide +kernel⟩, w_1232⟩
theorem w_1234 : Cond.methodLink RL 181 yX6_copy ∈ Tw := tw_of (i := 1234) (by decide +kernel) (by decide +kernel)
theorem w_1237 : Cond.code yX6_copy cX6_copy 7 (some .int) ∈ Tw := tw_of (i := 1237) (by decide +kernel) (by decide +kernel)
theorem w_1236 : Cond.selects RX6 yX6_copy yX6_copy ∈ Tw := tw_of (i := 1236) (by decide +kernel) (by decide +kernel)
theorem w_1235 : Cond.instanceMethod yX6_copy ∈ Tw := tw_of (i := 1235) (by decide +kernel) (by decide +kernel)
theorem mlL_181 : MLv RL 181 kX6_copy 5 := ⟨⟨w_1234, w_7, w_1237, by decide, by decide, by decide +kernel⟩, w_1235, w_1236⟩
theorem w_1238 : Cond.methodLink RL 185 yX6_lays ∈ Tw := tw_of (i := 1238) (by decide +kernel) (by decide +kernel)
theorem w_1241 : Cond.code yX6_lays cX6_lays 7 (some .int) ∈ Tw := tw_of (i := 1241) (by decide +kernel) (by decide +kernel)
theorem w_1240 : Cond.selects RX6 yX6_lays yX6_lays ∈ Tw := tw_of (i := 1240) (by decide +kernel) (by decide +kernel)
theorem w_1239 : Cond.instanceMethod yX6_lays ∈ Tw := tw_of (i := 1239) (by decide +kernel) (by decide +kernel)
theorem mlL_185 : MLv RL 185 kX6_lays 1 := ⟨⟨w_1238, w_7, w_1241, by decide, by decide, by decide +kernel⟩, w_1239, w_1240⟩
theorem w_1242 : Cond.methodLink RL 189 yX6_book ∈ Tw := tw_of (i := 1242) (by decide +kernel) (by decide +kernel)
theorem w_1245 : Cond.code yX6_book cX6_book 5 (some .int) ∈ Tw := tw_of (i := 1245) (by decide +kernel) (by decide +kernel)
theorem w_1244 : Cond.selects RX6 yX6_book yX6_book ∈ Tw := tw_of (i := 1244) (by decide +kernel) (by decide +kernel)
theorem w_1243 : Cond.instanceMethod yX6_book ∈ Tw := tw_of (i := 1243) (by decide +kernel) (by decide +kernel)
theorem mlL_189 : MLv RL 189 kX6_book 2 := ⟨⟨w_1242, w_7, w_1245, by decide, by decide, by decide +kernel⟩, w_1243, w_1244⟩
theorem w_1246 : Cond.methodLink RX6 310 yX6_wrongBook ∈ Tw := tw_of (i := 1246) (by decide +kernel) (by decide +kernel)
theorem w_1249 : Cond.code yX6_wrongBook cX6_wrongBook 4 (some .int) ∈ Tw := tw_of (i := 1249) (by decide +kernel) (by decide +kernel)
theorem ws_mlX6_310 : Cond.selects RX6 yX6_wrongBook yX6_wrongBook ∈ Tw := tw_sel (q := (⟨"BentPlainModel", "wrongBook", "(II)I"⟩, 17)) (i := 60) (by decide +kernel)
theorem w_1248 : Cond.instanceMethod yX6_wrongBook ∈ Tw := tw_of (i := 1248) (by decide +kernel) (by decide +kernel)
theorem mlX6_310 : MLv RX6 310 kX6_wrongBook 2 := ⟨⟨w_1246, w_7, w_1249, by decide, by decide, by decide +kernel⟩, w_1248, ws_mlX6_310⟩
theorem w_1250 : Cond.methodLink RL 193 yX6_read ∈ Tw := tw_of (i := 1250) (by decide +kernel) (by decide +kernel)
theorem w_1253 : Cond.code yX6_read cX6_read 6 (some .int) ∈ Tw := tw_of (i := 1253) (by decide +kernel) (by decide +kernel)
theorem w_1252 : Cond.selects RX6 yX6_read yX6_read ∈ Tw := tw_of (i := 1252) (by decide +kernel) (by decide +kernel)
theorem w_1251 : Cond.instanceMethod yX6_read ∈ Tw := tw_of (i := 1251) (by decide +kernel) (by decide +kernel)
theorem mlL_193 : MLv RL 193 kX6_read 2 := ⟨⟨w_1250, w_7, w_1253, by decide, by decide, by decide +kernel⟩, w_1251, w_1252⟩
theorem w_1254 : Cond.methodLink RX6 313 yX6_isSo ∈ Tw := tw_of (i := 1254) (by decide +kernel) (by decide +kernel)
theorem w_1257 : Cond.code yX6_isSo cX6_isSo 5 (some .int) ∈ Tw := tw_of (i := 1257) (by decide +kernel) (by decide +kernel)
theorem ws_mlX6_313 : Cond.selects RX6 yX6_isSo yX6_isSo ∈ Tw := tw_sel (q := (⟨"BentPlainModel", "isSo", "(II)I"⟩, 17)) (i := 61) (by decide +kernel)
theorem w_1256 : Cond.instanceMethod yX6_isSo ∈ Tw := tw_of (i := 1256) (by decide +kernel) (by decide +kernel)
theorem mlX6_313 : MLv RX6 313 kX6_isSo 2 := ⟨⟨w_1254, w_7, w_1257, by decide, by decide, by decide +kernel⟩, w_1256, ws_mlX6_313⟩
theorem w_1258 : Cond.methodLink RL 197 yX6_image ∈ Tw := tw_of (i := 1258) (by decide +kernel) (by decide +kernel)
theorem w_1261 : Cond.code yX6_image cX6_image 2 (some .int) ∈ Tw := tw_of (i := 1261) (by decide +kernel) (by decide +kernel)
theorem w_1260 : Cond.selects RX6 yX6_image yX6_image ∈ Tw := tw_of (i := 1260) (by decide +kernel) (by decide +kernel)
theorem w_1259 : Cond.instanceMethod yX6_image ∈ Tw := tw_of (i := 1259) (by decide +kernel) (by decide +kernel)
theorem mlL_197 : MLv RL 197 kX6_image 0 := ⟨⟨w_1258, w_7, w_1261, by decide, by decide, by decide +kernel⟩, w_1259, w_1260⟩
theorem w_1262 : Cond.methodLink RL 201 yX6_undo ∈ Tw := tw_of (i := 1262) (by decide +kernel) (by decide +kernel)
theorem w_1265 : Cond.code yX6_undo cX6_undo 2 (some .int) ∈ Tw := tw_of (i := 1265) (by decide +kernel) (by decide +kernel)
theorem w_1264 : Cond.selects RX6 yX6_undo yX6_undo ∈ Tw := tw_of (i := 1264) (by decide +kernel) (by decide +kernel)
theorem w_1263 : Cond.instanceMethod yX6_undo ∈ Tw := tw_of (i := 1263) (by decide +kernel) (by decide +kernel)
theorem mlL_201 : MLv RL 201 kX6_undo 0 := ⟨⟨w_1262, w_7, w_1265, by decide, by decide, by decide +kernel⟩, w_1263, w_1264⟩
theorem w_1266 : Cond.methodLink RL 205 yX6_tear ∈ Tw := tw_of (i := 1266) (by decide +kernel) (by decide +kernel)
theorem w_1269 : Cond.code yX6_tear cX6_tear 2 (some .int) ∈ Tw := tw_of (i := 1269) (by decide +kernel) (by decide +kernel)
theorem w_1268 : Cond.selects RX6 yX6_tear yX6_tear ∈ Tw := tw_of (i := 1268) (by decide +kernel) (by decide +kernel)
theorem w_1267 : Cond.instanceMethod yX6_tear ∈ Tw := tw_of (i := 1267) (by decide +kernel) (by decide +kernel)
theorem mlL_205 : MLv RL 205 kX6_tear 0 := ⟨⟨w_1266, w_7, w_1269, by decide, by decide, by decide +kernel⟩, w_1267, w_1268⟩
theorem w_1270 : Cond.methodLink RL 209 yX6_count ∈ Tw := tw_of (i := 1270) (by decide +kernel) (by decide +kernel)
theorem w_1273 : Cond.code yX6_count cX6_count 2 (some .int) ∈ Tw := tw_of (i := 1273) (by decide +kernel) (by decide +kernel)
theorem w_1272 : Cond.selects RX6 yX6_count yX6_count ∈ Tw := tw_of (i := 1272) (by decide +kernel) (by decide +kernel)
theorem w_1271 : Cond.instanceMethod yX6_count ∈ Tw := tw_of (i := 1271) (by decide +kernel) (by decide +kernel)
theorem mlL_209 : MLv RL 209 kX6_count 1 := ⟨⟨w_1270, w_7, w_1273, by decide, by decide, by decide +kernel⟩, w_1271, w_1272⟩
theorem w_1274 : Cond.methodLink RX6 319 yX6_gluedSides ∈ Tw := tw_of (i := 1274) (by decide +kernel) (by decide +kernel)
theorem w_1277 : Cond.code yX6_gluedSides cX6_gluedSides 3 (some .int) ∈ Tw := tw_of (i := 1277) (by decide +kernel) (by decide +kernel)
theorem ws_mlX6_319 : Cond.selects RX6 yX6_gluedSides yX6_gluedSides ∈ Tw := tw_sel (q := (⟨"BentPlainModel", "gluedSides", "()I"⟩, 17)) (i := 62) (by decide +kernel)
theorem w_1276 : Cond.instanceMethod yX6_gluedSides ∈ Tw := tw_of (i := 1276) (by decide +kernel) (by decide +kernel)
theorem mlX6_319 : MLv RX6 319 kX6_gluedSides 0 := ⟨⟨w_1274, w_7, w_1277, by decide, by decide, by decide +kernel⟩, w_1276, ws_mlX6_319⟩
theorem w_1278 : Cond.methodLink RL 213 yX6_status ∈ Tw := tw_of (i := 1278) (by decide +kernel) (by decide +kernel)
theorem w_1281 : Cond.code yX6_status cX6_status 4 (some .int) ∈ Tw := tw_of (i := 1281) (by decide +kernel) (by decide +kernel)
theorem w_1280 : Cond.selects RX6 yX6_status yX6_status ∈ Tw := tw_of (i := 1280) (by decide +kernel) (by decide +kernel)
theorem w_1279 : Cond.instanceMethod yX6_status ∈ Tw := tw_of (i := 1279) (by decide +kernel) (by decide +kernel)
theorem mlL_213 : MLv RL 213 kX6_status 1 := ⟨⟨w_1278, w_7, w_1281, by decide, by decide, by decide +kernel⟩, w_1279, w_1280⟩
theorem mlX0_46 : MLn RX0 46 kX5_wayOf 2 := ⟨⟨"BentPlain", by decide +kernel⟩, w_1, w_203, ⟨by decide, by decide, by decide +kernel⟩, w_202⟩
theorem mlX0_68 : MLn RX0 68 kX5_fieldOf 1 := ⟨⟨"BentPlain", by decide +kernel⟩, w_1, w_239, ⟨by decide, by decide, by decide +kernel⟩, w_238⟩
theorem mlX5_160 : MLn RX5 160 kX4_payOf 2 := ⟨⟨"BentPlain", by decide +kernel⟩, w_3, w_310, ⟨by decide, by decide, by decide +kernel⟩, w_309⟩
theorem mlX0_74 : MLn RX0 74 kX5_turned 2 := ⟨⟨"BentPlain", by decide +kernel⟩, w_1, w_345, ⟨by decide, by decide, by decide +kernel⟩, w_344⟩
theorem mlX4_33 : MLn RX4 33 kX5_turned 2 := ⟨⟨"BentPlain", by decide +kernel⟩, w_1, w_345, ⟨by decide, by decide, by decide +kernel⟩, w_344⟩
theorem mlX4_37 : MLn RX4 37 kX5_fieldOf 1 := ⟨⟨"BentPlain", by decide +kernel⟩, w_1, w_239, ⟨by decide, by decide, by decide +kernel⟩, w_238⟩
theorem mlX3_108 : MLn RX3 108 kX5_wayOf 2 := ⟨⟨"BentPlain", by decide +kernel⟩, w_1, w_203, ⟨by decide, by decide, by decide +kernel⟩, w_202⟩
