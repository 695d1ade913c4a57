/-! the tables of the system: written by program (wip/whole/gen2.py) -/
abbrev aMt : Type := MethodName × ByteArray × Nat × Option FieldType × Nat
def mtb : List aMt := [(yX0_isUnder, cX0_isUnder, 4, (some .boolean), 0),
  (yX0_growth, cX0_growth, 3, (some .int), 0),
  (yX0_pull, cX0_pull, 2, (some .int), 0),
  (yX0_worth, cX0_worth, 2, (some .int), 0),
  (yX1_init, cX1_init, 2, none, 1),
  (yX1_value, cX1_value, 9, (some .int), 1),
  (yX1_joined, cX1_joined, 3, (some .int), 1),
  (yX2_init, cX2_init, 1, none, 2),
  (yX2_takes, cX2_takes, 3, none, 2),
  (yX2_parse, cX2_parse, 3, (some .int), 2),
  (yX2_next, cX2_next, 4, none, 2),
  (yX2_sortAt, cX2_sortAt, 3, (some .int), 2),
  (yX2_isWord, cX2_isWord, 4, (some .boolean), 2),
  (yX2_isSign, cX2_isSign, 2, (some .boolean), 2),
  (yX2_fails, cX2_fails, 1, none, 2),
  (yX2_signsOf, cX2_signsOf, 1, (some (.object "java/lang/String")), 2),
  (yX2_isSignOf, cX2_isSignOf, 2, (some .boolean), 2),
  (yX2_level, cX2_level, 6, none, 2),
  (yX2_piece, cX2_piece, 2, none, 2),
  (yX2_leaf, cX2_leaf, 3, none, 2),
  (yX2_number, cX2_number, 3, (some .int), 2),
  (yX2_nameOf, cX2_nameOf, 3, (some .int), 2),
  (yX3_init, cX3_init, 1, none, 3),
  (yX3_clears, cX3_clears, 4, none, 3),
  (yX3_takesAfter, cX3_takesAfter, 2, none, 3),
  (yX3_hasPart, cX3_hasPart, 3, (some .boolean), 3),
  (yX4_init, cX4_init, 1, none, 4),
  (yX5_init, cX5_init, 1, none, 5),
  (yX5_adds, cX5_adds, 2, none, 5),
  (yX6_init, cX6_init, 3, none, 6),
  (yX6_takesAfter, cX6_takesAfter, 2, none, 6),
  (yX6_has, cX6_has, 2, (some .boolean), 6),
  (yX6_isFree, cX6_isFree, 2, (some .boolean), 6),
  (yX6_comes, cX6_comes, 7, (some .int), 6),
  (yX6_settle, cX6_settle, 3, none, 6),
  (yX6_supposes, cX6_supposes, 4, none, 6),
  (yX6_sizesTogether, cX6_sizesTogether, 3, (some .int), 6),
  (yX6_draw, cX6_draw, 1, (some .int), 6),
  (yX6_drawsOne, cX6_drawsOne, 6, (some .boolean), 6),
  (yX6_freeFrom, cX6_freeFrom, 4, (some .int), 6),
  (yX6_seenBy, cX6_seenBy, 4, (some .int), 6),
  (yX6_seenAlong, cX6_seenAlong, 9, (some .int), 6),
  (yX6_lookOf, cX6_lookOf, 7, (some .int), 6),
  (yX6_pullOn, cX6_pullOn, 8, (some .int), 6),
  (yX6_lookAll, cX6_lookAll, 3, none, 6),
  (yX6_eyesOn, cX6_eyesOn, 2, (some .int), 6),
  (yX6_live, cX6_live, 3, none, 6),
  (yX6_growAll, cX6_growAll, 5, none, 6),
  (yX6_wander, cX6_wander, 4, none, 6),
  (yX6_clamour, cX6_clamour, 3, none, 6),
  (yX7_init, cX7_init, 2, none, 7),
  (yX7_one, cX7_one, 7, (some .int), 7),
  (yX7_told, cX7_told, 3, (some .int), 7),
  (yX7_as, cX7_as, 3, (some .int), 7),
  (yX7_turns, cX7_turns, 4, (some .int), 7),
  (yX7_set, cX7_set, 6, (some .int), 7),
  (yX7_moves, cX7_moves, 4, (some .int), 7),
  (yX7_screen, cX7_screen, 4, (some .int), 7),
  (yX7_at, cX7_at, 2, (some .int), 7),
  (yX7_rule, cX7_rule, 4, (some .int), 7),
  (yX7_deal, cX7_deal, 4, (some .int), 7),
  (yX7_seed, cX7_seed, 3, (some .int), 7),
  (yX7_looks, cX7_looks, 3, (some .int), 7),
  (yX7_eyes, cX7_eyes, 2, (some .int), 7),
  (yX7_sees, cX7_sees, 2, (some .int), 7),
  (yX7_days, cX7_days, 3, (some .int), 7),
  (yX7_town, cX7_town, 2, (some .int), 7),
  (yX7_curtain, cX7_curtain, 7, (some .int), 7),
  (yX7_seat, cX7_seat, 7, (some .int), 7),
  (yX7_behind, cX7_behind, 3, (some .int), 7),
  (yX7_vanishes, cX7_vanishes, 2, (some .int), 7),
  (yX7_bumps, cX7_bumps, 2, (some .int), 7),
  (yX7_loud, cX7_loud, 4, (some .int), 7),
  (yX7_loved, cX7_loved, 4, (some .int), 7),
  (yX7_becomes, cX7_becomes, 4, (some .int), 7),
  (yX7_like, cX7_like, 5, (some .int), 7),
  (yX7_fee, cX7_fee, 2, (some .int), 7),
  (yX7_fine, cX7_fine, 3, (some .int), 7),
  (yX7_feed, cX7_feed, 4, (some .int), 7),
  (yX7_trim, cX7_trim, 2, (some .int), 7),
  (yX7_text, cX7_text, 4, (some .int), 7),
  (yX7_textTold, cX7_textTold, 3, (some .int), 7),
  (yX7_why, cX7_why, 2, (some .int), 7),
  (yX7_sheet, cX7_sheet, 5, (some .int), 7),
  (yX7_mark, cX7_mark, 6, (some .int), 7),
  (yX7_pour, cX7_pour, 7, (some .int), 7),
  (yX7_reads, cX7_reads, 6, (some .int), 7),
  (yX7_copy, cX7_copy, 8, (some .int), 7),
  (yX7_lay, cX7_lay, 6, (some .int), 7),
  (yX7_ask, cX7_ask, 5, (some .int), 7),
  (yX7_item, cX7_item, 5, (some .int), 7),
  (yX7_rest, cX7_rest, 4, (some .int), 7),
  (yX7_tell, cX7_tell, 2, (some .int), 7),
  (yX7_check, cX7_check, 6, (some .int), 7),
  (yX7_keep, cX7_keep, 1, (some .int), 7),
  (yX7_back, cX7_back, 1, (some .int), 7),
  (yX7_count, cX7_count, 2, (some .int), 7),
  (yX7_isWithin, cX7_isWithin, 3, (some .boolean), 7),
  (yX7_held, cX7_held, 3, (some .int), 7),
  (yX7_isValue, cX7_isValue, 2, (some .boolean), 7),
  (yX7_isSupposable, cX7_isSupposable, 4, (some .boolean), 7),
  (yX7_firstDay, cX7_firstDay, 5, (some .int), 7),
  (yX7_tallest, cX7_tallest, 10, (some .int), 7),
  (yX7_addDifferences, cX7_addDifferences, 4, none, 7),
  (yX7_sheetFinding, cX7_sheetFinding, 2, (some .int), 7),
  (yX7_slotFinding, cX7_slotFinding, 3, (some .int), 7),
  (yX8_init, cX8_init, 2, none, 8),
  (yX8_isIn, cX8_isIn, 6, (some .boolean), 8),
  (yX8_orNone, cX8_orNone, 1, (some .int), 8),
  (yX8_within, cX8_within, 2, (some .int), 8),
  (yX8_off, cX8_off, 2, (some .int), 8),
  (yX8_changes, cX8_changes, 4, (some .int), 8),
  (yX8_textAt, cX8_textAt, 2, (some .int), 8),
  (yX8_of, cX8_of, 3, (some .int), 8),
  (yX8_sets, cX8_sets, 4, none, 8),
  (yX8_isOne, cX8_isOne, 2, (some .boolean), 8),
  (yX8_isText, cX8_isText, 2, (some .boolean), 8),
  (yX8_drawn, cX8_drawn, 1, (some .int), 8),
  (yX8_isOf, cX8_isOf, 2, (some .boolean), 8),
  (yX8_isPlace, cX8_isPlace, 1, (some .boolean), 8),
  (yX8_isScreen, cX8_isScreen, 2, (some .boolean), 8),
  (yX8_whose, cX8_whose, 3, (some .int), 8),
  (yX8_isFree, cX8_isFree, 2, (some .boolean), 8),
  (yX8_comes, cX8_comes, 7, none, 8),
  (yX8_isOneSo, cX8_isOneSo, 3, (some .boolean), 8),
  (yX8_one, cX8_one, 6, (some .int), 8),
  (yX8_grows, cX8_grows, 4, (some .int), 8),
  (yX8_worth, cX8_worth, 3, (some .int), 8),
  (yX8_isClear, cX8_isClear, 10, (some .boolean), 8),
  (yX8_doesSee, cX8_doesSee, 5, (some .boolean), 8),
  (yX8_pulls, cX8_pulls, 5, (some .int), 8),
  (yX8_looksAt, cX8_looksAt, 8, (some .int), 8),
  (yX8_eyesOf, cX8_eyesOf, 4, (some .int), 8),
  (yX8_many, cX8_many, 3, (some .int), 8),
  (yX8_told, cX8_told, 3, (some .int), 8),
  (yX8_as, cX8_as, 3, (some .int), 8),
  (yX8_turns, cX8_turns, 3, (some .int), 8),
  (yX8_set, cX8_set, 5, (some .int), 8),
  (yX8_moves, cX8_moves, 3, (some .int), 8),
  (yX8_screen, cX8_screen, 4, (some .int), 8),
  (yX8_at, cX8_at, 2, (some .int), 8),
  (yX8_rule, cX8_rule, 3, (some .int), 8),
  (yX8_deal, cX8_deal, 10, (some .int), 8),
  (yX8_seed, cX8_seed, 2, (some .int), 8),
  (yX8_looks, cX8_looks, 2, (some .int), 8),
  (yX8_eyes, cX8_eyes, 2, (some .int), 8),
  (yX8_sees, cX8_sees, 4, (some .int), 8),
  (yX8_allLook, cX8_allLook, 3, none, 8),
  (yX8_goesOn, cX8_goesOn, 4, none, 8),
  (yX8_goesOnMany, cX8_goesOnMany, 3, none, 8),
  (yX8_days, cX8_days, 4, (some .int), 8),
  (yX8_sizes, cX8_sizes, 3, (some .int), 8),
  (yX8_town, cX8_town, 2, (some .int), 8),
  (yX8_laysBy, cX8_laysBy, 2, none, 8),
  (yX8_laysBack, cX8_laysBack, 2, none, 8),
  (yX8_curtain, cX8_curtain, 8, (some .int), 8),
  (yX8_seat, cX8_seat, 8, (some .int), 8),
  (yX8_behind, cX8_behind, 4, (some .int), 8),
  (yX8_vanishes, cX8_vanishes, 3, (some .int), 8),
  (yX8_bumps, cX8_bumps, 3, (some .int), 8),
  (yX8_isAsked, cX8_isAsked, 2, (some .boolean), 8),
  (yX8_tallest, cX8_tallest, 11, (some .int), 8),
  (yX8_loud, cX8_loud, 4, (some .int), 8),
  (yX8_lovedMost, cX8_lovedMost, 8, (some .int), 8),
  (yX8_loved, cX8_loved, 4, (some .int), 8),
  (yX8_becomes, cX8_becomes, 4, (some .int), 8),
  (yX8_fee, cX8_fee, 2, (some .int), 8),
  (yX8_fine, cX8_fine, 3, (some .int), 8),
  (yX8_feed, cX8_feed, 6, (some .int), 8),
  (yX8_trim, cX8_trim, 2, (some .int), 8),
  (yX8_isLetter, cX8_isLetter, 2, (some .boolean), 8),
  (yX8_isDigit, cX8_isDigit, 2, (some .boolean), 8),
  (yX8_nextToken, cX8_nextToken, 3, none, 8),
  (yX8_isSign, cX8_isSign, 2, (some .boolean), 8),
  (yX8_isWordAt, cX8_isWordAt, 6, (some .boolean), 8),
  (yX8_key, cX8_key, 1, (some .int), 8),
  (yX8_isName, cX8_isName, 2, (some .boolean), 8),
  (yX8_step, cX8_step, 3, none, 8),
  (yX8_either, cX8_either, 2, (some .boolean), 8),
  (yX8_both, cX8_both, 2, (some .boolean), 8),
  (yX8_test, cX8_test, 3, (some .boolean), 8),
  (yX8_sum, cX8_sum, 3, (some .boolean), 8),
  (yX8_term, cX8_term, 3, (some .boolean), 8),
  (yX8_part0, cX8_part0, 2, (some .boolean), 8),
  (yX8_parse, cX8_parse, 3, (some .int), 8),
  (yX8_text, cX8_text, 3, (some .int), 8),
  (yX8_textTold, cX8_textTold, 3, (some .int), 8),
  (yX8_counts, cX8_counts, 4, (some .int), 8),
  (yX8_why, cX8_why, 2, (some .int), 8),
  (yX8_joined, cX8_joined, 3, (some .int), 8),
  (yX8_worked, cX8_worked, 6, (some .int), 8),
  (yX8_isSheet, cX8_isSheet, 1, (some .boolean), 8),
  (yX8_sheet, cX8_sheet, 5, (some .int), 8),
  (yX8_mark, cX8_mark, 4, (some .int), 8),
  (yX8_pour, cX8_pour, 6, (some .int), 8),
  (yX8_reads, cX8_reads, 4, (some .int), 8),
  (yX8_offBy, cX8_offBy, 6, (some .int), 8),
  (yX8_like, cX8_like, 7, (some .int), 8),
  (yX8_copy, cX8_copy, 7, (some .int), 8),
  (yX8_isSlot, cX8_isSlot, 1, (some .boolean), 8),
  (yX8_lay, cX8_lay, 7, (some .int), 8),
  (yX8_ask, cX8_ask, 3, (some .int), 8),
  (yX8_item, cX8_item, 4, (some .int), 8),
  (yX8_rest, cX8_rest, 3, (some .int), 8),
  (yX8_tell, cX8_tell, 2, (some .int), 8),
  (yX8_setAside, cX8_setAside, 4, none, 8),
  (yX8_check, cX8_check, 5, (some .int), 8),
  (yX8_keep, cX8_keep, 1, (some .int), 8),
  (yX8_back, cX8_back, 1, (some .int), 8),
  (yX8_count, cX8_count, 2, (some .int), 8),
  (yJ6_bitCount_0f7a4, cJ6_bitCount_0f7a4, 1, (some .int), 12),
  (yJ0_length_8abf5, cJ0_length_8abf5, 1, (some .int), 9),
  (yJ0_charAt_5068e, cJ0_charAt_5068e, 2, (some .char), 9),
  (yJ0_indexOf_0f7a4, cJ0_indexOf_0f7a4, 2, (some .int), 9),
  (yJ0_indexOf_7cf53, cJ0_indexOf_7cf53, 3, (some .int), 9),
  (yJ0_coder_7d493, cJ0_coder_7d493, 1, (some .byte), 9),
  (yJ0_isLatin1_aae02, cJ0_isLatin1_aae02, 1, (some .boolean), 9),
  (yJ0_checkIndex_df160, cJ0_checkIndex_df160, 2, none, 9),
  (yJ1_charAt_3b067, cJ1_charAt_3b067, 2, (some .char), 10),
  (yJ1_canEncode_9a6ad, cJ1_canEncode_9a6ad, 1, (some .boolean), 10),
  (yJ1_indexOf_4cfef, cJ1_indexOf_4cfef, 4, (some .int), 10),
  (yJ1_indexOfChar_4cfef, cJ1_indexOfChar_4cfef, 6, (some .int), 10),
  (yJ3_checkIndex_8e157, cJ3_checkIndex_8e157, 3, (some .int), 11),
  (yL_law, cL_law, 4, (some .boolean), 14)]
theorem mt_0 : mtb[0]? = some (yX0_isUnder, cX0_isUnder, 4, (some .boolean), 0) := rfl
theorem mt_1 : mtb[1]? = some (yX0_growth, cX0_growth, 3, (some .int), 0) := rfl
theorem mt_2 : mtb[2]? = some (yX0_pull, cX0_pull, 2, (some .int), 0) := rfl
theorem mt_3 : mtb[3]? = some (yX0_worth, cX0_worth, 2, (some .int), 0) := rfl
theorem mt_4 : mtb[4]? = some (yX1_init, cX1_init, 2, none, 1) := rfl
theorem mt_5 : mtb[5]? = some (yX1_value, cX1_value, 9, (some .int), 1) := rfl
theorem mt_6 : mtb[6]? = some (yX1_joined, cX1_joined, 3, (some .int), 1) := rfl
theorem mt_7 : mtb[7]? = some (yX2_init, cX2_init, 1, none, 2) := rfl
theorem mt_8 : mtb[8]? = some (yX2_takes, cX2_takes, 3, none, 2) := rfl
theorem mt_9 : mtb[9]? = some (yX2_parse, cX2_parse, 3, (some .int), 2) := rfl
theorem mt_10 : mtb[10]? = some (yX2_next, cX2_next, 4, none, 2) := rfl
theorem mt_11 : mtb[11]? = some (yX2_sortAt, cX2_sortAt, 3, (some .int), 2) := rfl
theorem mt_12 : mtb[12]? = some (yX2_isWord, cX2_isWord, 4, (some .boolean), 2) := rfl
theorem mt_13 : mtb[13]? = some (yX2_isSign, cX2_isSign, 2, (some .boolean), 2) := rfl
theorem mt_14 : mtb[14]? = some (yX2_fails, cX2_fails, 1, none, 2) := rfl
theorem mt_15 : mtb[15]? = some (yX2_signsOf, cX2_signsOf, 1, (some (.object "java/lang/String")), 2) := rfl
theorem mt_16 : mtb[16]? = some (yX2_isSignOf, cX2_isSignOf, 2, (some .boolean), 2) := rfl
theorem mt_17 : mtb[17]? = some (yX2_level, cX2_level, 6, none, 2) := rfl
theorem mt_18 : mtb[18]? = some (yX2_piece, cX2_piece, 2, none, 2) := rfl
theorem mt_19 : mtb[19]? = some (yX2_leaf, cX2_leaf, 3, none, 2) := rfl
theorem mt_20 : mtb[20]? = some (yX2_number, cX2_number, 3, (some .int), 2) := rfl
theorem mt_21 : mtb[21]? = some (yX2_nameOf, cX2_nameOf, 3, (some .int), 2) := rfl
theorem mt_22 : mtb[22]? = some (yX3_init, cX3_init, 1, none, 3) := rfl
theorem mt_23 : mtb[23]? = some (yX3_clears, cX3_clears, 4, none, 3) := rfl
theorem mt_24 : mtb[24]? = some (yX3_takesAfter, cX3_takesAfter, 2, none, 3) := rfl
theorem mt_25 : mtb[25]? = some (yX3_hasPart, cX3_hasPart, 3, (some .boolean), 3) := rfl
theorem mt_26 : mtb[26]? = some (yX4_init, cX4_init, 1, none, 4) := rfl
theorem mt_27 : mtb[27]? = some (yX5_init, cX5_init, 1, none, 5) := rfl
theorem mt_28 : mtb[28]? = some (yX5_adds, cX5_adds, 2, none, 5) := rfl
theorem mt_29 : mtb[29]? = some (yX6_init, cX6_init, 3, none, 6) := rfl
theorem mt_30 : mtb[30]? = some (yX6_takesAfter, cX6_takesAfter, 2, none, 6) := rfl
theorem mt_31 : mtb[31]? = some (yX6_has, cX6_has, 2, (some .boolean), 6) := rfl
theorem mt_32 : mtb[32]? = some (yX6_isFree, cX6_isFree, 2, (some .boolean), 6) := rfl
theorem mt_33 : mtb[33]? = some (yX6_comes, cX6_comes, 7, (some .int), 6) := rfl
theorem mt_34 : mtb[34]? = some (yX6_settle, cX6_settle, 3, none, 6) := rfl
theorem mt_35 : mtb[35]? = some (yX6_supposes, cX6_supposes, 4, none, 6) := rfl
theorem mt_36 : mtb[36]? = some (yX6_sizesTogether, cX6_sizesTogether, 3, (some .int), 6) := rfl
theorem mt_37 : mtb[37]? = some (yX6_draw, cX6_draw, 1, (some .int), 6) := rfl
theorem mt_38 : mtb[38]? = some (yX6_drawsOne, cX6_drawsOne, 6, (some .boolean), 6) := rfl
theorem mt_39 : mtb[39]? = some (yX6_freeFrom, cX6_freeFrom, 4, (some .int), 6) := rfl
theorem mt_40 : mtb[40]? = some (yX6_seenBy, cX6_seenBy, 4, (some .int), 6) := rfl
theorem mt_41 : mtb[41]? = some (yX6_seenAlong, cX6_seenAlong, 9, (some .int), 6) := rfl
theorem mt_42 : mtb[42]? = some (yX6_lookOf, cX6_lookOf, 7, (some .int), 6) := rfl
theorem mt_43 : mtb[43]? = some (yX6_pullOn, cX6_pullOn, 8, (some .int), 6) := rfl
theorem mt_44 : mtb[44]? = some (yX6_lookAll, cX6_lookAll, 3, none, 6) := rfl
theorem mt_45 : mtb[45]? = some (yX6_eyesOn, cX6_eyesOn, 2, (some .int), 6) := rfl
theorem mt_46 : mtb[46]? = some (yX6_live, cX6_live, 3, none, 6) := rfl
theorem mt_47 : mtb[47]? = some (yX6_growAll, cX6_growAll, 5, none, 6) := rfl
theorem mt_48 : mtb[48]? = some (yX6_wander, cX6_wander, 4, none, 6) := rfl
theorem mt_49 : mtb[49]? = some (yX6_clamour, cX6_clamour, 3, none, 6) := rfl
theorem mt_50 : mtb[50]? = some (yX7_init, cX7_init, 2, none, 7) := rfl
theorem mt_51 : mtb[51]? = some (yX7_one, cX7_one, 7, (some .int), 7) := rfl
theorem mt_52 : mtb[52]? = some (yX7_told, cX7_told, 3, (some .int), 7) := rfl
theorem mt_53 : mtb[53]? = some (yX7_as, cX7_as, 3, (some .int), 7) := rfl
theorem mt_54 : mtb[54]? = some (yX7_turns, cX7_turns, 4, (some .int), 7) := rfl
theorem mt_55 : mtb[55]? = some (yX7_set, cX7_set, 6, (some .int), 7) := rfl
theorem mt_56 : mtb[56]? = some (yX7_moves, cX7_moves, 4, (some .int), 7) := rfl
theorem mt_57 : mtb[57]? = some (yX7_screen, cX7_screen, 4, (some .int), 7) := rfl
theorem mt_58 : mtb[58]? = some (yX7_at, cX7_at, 2, (some .int), 7) := rfl
theorem mt_59 : mtb[59]? = some (yX7_rule, cX7_rule, 4, (some .int), 7) := rfl
theorem mt_60 : mtb[60]? = some (yX7_deal, cX7_deal, 4, (some .int), 7) := rfl
theorem mt_61 : mtb[61]? = some (yX7_seed, cX7_seed, 3, (some .int), 7) := rfl
theorem mt_62 : mtb[62]? = some (yX7_looks, cX7_looks, 3, (some .int), 7) := rfl
theorem mt_63 : mtb[63]? = some (yX7_eyes, cX7_eyes, 2, (some .int), 7) := rfl
theorem mt_64 : mtb[64]? = some (yX7_sees, cX7_sees, 2, (some .int), 7) := rfl
theorem mt_65 : mtb[65]? = some (yX7_days, cX7_days, 3, (some .int), 7) := rfl
theorem mt_66 : mtb[66]? = some (yX7_town, cX7_town, 2, (some .int), 7) := rfl
theorem mt_67 : mtb[67]? = some (yX7_curtain, cX7_curtain, 7, (some .int), 7) := rfl
theorem mt_68 : mtb[68]? = some (yX7_seat, cX7_seat, 7, (some .int), 7) := rfl
theorem mt_69 : mtb[69]? = some (yX7_behind, cX7_behind, 3, (some .int), 7) := rfl
theorem mt_70 : mtb[70]? = some (yX7_vanishes, cX7_vanishes, 2, (some .int), 7) := rfl
theorem mt_71 : mtb[71]? = some (yX7_bumps, cX7_bumps, 2, (some .int), 7) := rfl
theorem mt_72 : mtb[72]? = some (yX7_loud, cX7_loud, 4, (some .int), 7) := rfl
theorem mt_73 : mtb[73]? = some (yX7_loved, cX7_loved, 4, (some .int), 7) := rfl
theorem mt_74 : mtb[74]? = some (yX7_becomes, cX7_becomes, 4, (some .int), 7) := rfl
theorem mt_75 : mtb[75]? = some (yX7_like, cX7_like, 5, (some .int), 7) := rfl
theorem mt_76 : mtb[76]? = some (yX7_fee, cX7_fee, 2, (some .int), 7) := rfl
theorem mt_77 : mtb[77]? = some (yX7_fine, cX7_fine, 3, (some .int), 7) := rfl
theorem mt_78 : mtb[78]? = some (yX7_feed, cX7_feed, 4, (some .int), 7) := rfl
theorem mt_79 : mtb[79]? = some (yX7_trim, cX7_trim, 2, (some .int), 7) := rfl
theorem mt_80 : mtb[80]? = some (yX7_text, cX7_text, 4, (some .int), 7) := rfl
theorem mt_81 : mtb[81]? = some (yX7_textTold, cX7_textTold, 3, (some .int), 7) := rfl
theorem mt_82 : mtb[82]? = some (yX7_why, cX7_why, 2, (some .int), 7) := rfl
theorem mt_83 : mtb[83]? = some (yX7_sheet, cX7_sheet, 5, (some .int), 7) := rfl
theorem mt_84 : mtb[84]? = some (yX7_mark, cX7_mark, 6, (some .int), 7) := rfl
theorem mt_85 : mtb[85]? = some (yX7_pour, cX7_pour, 7, (some .int), 7) := rfl
theorem mt_86 : mtb[86]? = some (yX7_reads, cX7_reads, 6, (some .int), 7) := rfl
theorem mt_87 : mtb[87]? = some (yX7_copy, cX7_copy, 8, (some .int), 7) := rfl
theorem mt_88 : mtb[88]? = some (yX7_lay, cX7_lay, 6, (some .int), 7) := rfl
theorem mt_89 : mtb[89]? = some (yX7_ask, cX7_ask, 5, (some .int), 7) := rfl
theorem mt_90 : mtb[90]? = some (yX7_item, cX7_item, 5, (some .int), 7) := rfl
theorem mt_91 : mtb[91]? = some (yX7_rest, cX7_rest, 4, (some .int), 7) := rfl
theorem mt_92 : mtb[92]? = some (yX7_tell, cX7_tell, 2, (some .int), 7) := rfl
theorem mt_93 : mtb[93]? = some (yX7_check, cX7_check, 6, (some .int), 7) := rfl
theorem mt_94 : mtb[94]? = some (yX7_keep, cX7_keep, 1, (some .int), 7) := rfl
theorem mt_95 : mtb[95]? = some (yX7_back, cX7_back, 1, (some .int), 7) := rfl
theorem mt_96 : mtb[96]? = some (yX7_count, cX7_count, 2, (some .int), 7) := rfl
theorem mt_97 : mtb[97]? = some (yX7_isWithin, cX7_isWithin, 3, (some .boolean), 7) := rfl
theorem mt_98 : mtb[98]? = some (yX7_held, cX7_held, 3, (some .int), 7) := rfl
theorem mt_99 : mtb[99]? = some (yX7_isValue, cX7_isValue, 2, (some .boolean), 7) := rfl
theorem mt_100 : mtb[100]? = some (yX7_isSupposable, cX7_isSupposable, 4, (some .boolean), 7) := rfl
theorem mt_101 : mtb[101]? = some (yX7_firstDay, cX7_firstDay, 5, (some .int), 7) := rfl
theorem mt_102 : mtb[102]? = some (yX7_tallest, cX7_tallest, 10, (some .int), 7) := rfl
theorem mt_103 : mtb[103]? = some (yX7_addDifferences, cX7_addDifferences, 4, none, 7) := rfl
theorem mt_104 : mtb[104]? = some (yX7_sheetFinding, cX7_sheetFinding, 2, (some .int), 7) := rfl
theorem mt_105 : mtb[105]? = some (yX7_slotFinding, cX7_slotFinding, 3, (some .int), 7) := rfl
theorem mt_106 : mtb[106]? = some (yX8_init, cX8_init, 2, none, 8) := rfl
theorem mt_107 : mtb[107]? = some (yX8_isIn, cX8_isIn, 6, (some .boolean), 8) := rfl
theorem mt_108 : mtb[108]? = some (yX8_orNone, cX8_orNone, 1, (some .int), 8) := rfl
theorem mt_109 : mtb[109]? = some (yX8_within, cX8_within, 2, (some .int), 8) := rfl
theorem mt_110 : mtb[110]? = some (yX8_off, cX8_off, 2, (some .int), 8) := rfl
theorem mt_111 : mtb[111]? = some (yX8_changes, cX8_changes, 4, (some .int), 8) := rfl
theorem mt_112 : mtb[112]? = some (yX8_textAt, cX8_textAt, 2, (some .int), 8) := rfl
theorem mt_113 : mtb[113]? = some (yX8_of, cX8_of, 3, (some .int), 8) := rfl
theorem mt_114 : mtb[114]? = some (yX8_sets, cX8_sets, 4, none, 8) := rfl
theorem mt_115 : mtb[115]? = some (yX8_isOne, cX8_isOne, 2, (some .boolean), 8) := rfl
theorem mt_116 : mtb[116]? = some (yX8_isText, cX8_isText, 2, (some .boolean), 8) := rfl
theorem mt_117 : mtb[117]? = some (yX8_drawn, cX8_drawn, 1, (some .int), 8) := rfl
theorem mt_118 : mtb[118]? = some (yX8_isOf, cX8_isOf, 2, (some .boolean), 8) := rfl
theorem mt_119 : mtb[119]? = some (yX8_isPlace, cX8_isPlace, 1, (some .boolean), 8) := rfl
theorem mt_120 : mtb[120]? = some (yX8_isScreen, cX8_isScreen, 2, (some .boolean), 8) := rfl
theorem mt_121 : mtb[121]? = some (yX8_whose, cX8_whose, 3, (some .int), 8) := rfl
theorem mt_122 : mtb[122]? = some (yX8_isFree, cX8_isFree, 2, (some .boolean), 8) := rfl
theorem mt_123 : mtb[123]? = some (yX8_comes, cX8_comes, 7, none, 8) := rfl
theorem mt_124 : mtb[124]? = some (yX8_isOneSo, cX8_isOneSo, 3, (some .boolean), 8) := rfl
theorem mt_125 : mtb[125]? = some (yX8_one, cX8_one, 6, (some .int), 8) := rfl
theorem mt_126 : mtb[126]? = some (yX8_grows, cX8_grows, 4, (some .int), 8) := rfl
theorem mt_127 : mtb[127]? = some (yX8_worth, cX8_worth, 3, (some .int), 8) := rfl
theorem mt_128 : mtb[128]? = some (yX8_isClear, cX8_isClear, 10, (some .boolean), 8) := rfl
theorem mt_129 : mtb[129]? = some (yX8_doesSee, cX8_doesSee, 5, (some .boolean), 8) := rfl
theorem mt_130 : mtb[130]? = some (yX8_pulls, cX8_pulls, 5, (some .int), 8) := rfl
theorem mt_131 : mtb[131]? = some (yX8_looksAt, cX8_looksAt, 8, (some .int), 8) := rfl
theorem mt_132 : mtb[132]? = some (yX8_eyesOf, cX8_eyesOf, 4, (some .int), 8) := rfl
theorem mt_133 : mtb[133]? = some (yX8_many, cX8_many, 3, (some .int), 8) := rfl
theorem mt_134 : mtb[134]? = some (yX8_told, cX8_told, 3, (some .int), 8) := rfl
theorem mt_135 : mtb[135]? = some (yX8_as, cX8_as, 3, (some .int), 8) := rfl
theorem mt_136 : mtb[136]? = some (yX8_turns, cX8_turns, 3, (some .int), 8) := rfl
theorem mt_137 : mtb[137]? = some (yX8_set, cX8_set, 5, (some .int), 8) := rfl
theorem mt_138 : mtb[138]? = some (yX8_moves, cX8_moves, 3, (some .int), 8) := rfl
theorem mt_139 : mtb[139]? = some (yX8_screen, cX8_screen, 4, (some .int), 8) := rfl
theorem mt_140 : mtb[140]? = some (yX8_at, cX8_at, 2, (some .int), 8) := rfl
theorem mt_141 : mtb[141]? = some (yX8_rule, cX8_rule, 3, (some .int), 8) := rfl
theorem mt_142 : mtb[142]? = some (yX8_deal, cX8_deal, 10, (some .int), 8) := rfl
theorem mt_143 : mtb[143]? = some (yX8_seed, cX8_seed, 2, (some .int), 8) := rfl
theorem mt_144 : mtb[144]? = some (yX8_looks, cX8_looks, 2, (some .int), 8) := rfl
theorem mt_145 : mtb[145]? = some (yX8_eyes, cX8_eyes, 2, (some .int), 8) := rfl
theorem mt_146 : mtb[146]? = some (yX8_sees, cX8_sees, 4, (some .int), 8) := rfl
theorem mt_147 : mtb[147]? = some (yX8_allLook, cX8_allLook, 3, none, 8) := rfl
theorem mt_148 : mtb[148]? = some (yX8_goesOn, cX8_goesOn, 4, none, 8) := rfl
theorem mt_149 : mtb[149]? = some (yX8_goesOnMany, cX8_goesOnMany, 3, none, 8) := rfl
theorem mt_150 : mtb[150]? = some (yX8_days, cX8_days, 4, (some .int), 8) := rfl
theorem mt_151 : mtb[151]? = some (yX8_sizes, cX8_sizes, 3, (some .int), 8) := rfl
theorem mt_152 : mtb[152]? = some (yX8_town, cX8_town, 2, (some .int), 8) := rfl
theorem mt_153 : mtb[153]? = some (yX8_laysBy, cX8_laysBy, 2, none, 8) := rfl
theorem mt_154 : mtb[154]? = some (yX8_laysBack, cX8_laysBack, 2, none, 8) := rfl
theorem mt_155 : mtb[155]? = some (yX8_curtain, cX8_curtain, 8, (some .int), 8) := rfl
theorem mt_156 : mtb[156]? = some (yX8_seat, cX8_seat, 8, (some .int), 8) := rfl
theorem mt_157 : mtb[157]? = some (yX8_behind, cX8_behind, 4, (some .int), 8) := rfl
theorem mt_158 : mtb[158]? = some (yX8_vanishes, cX8_vanishes, 3, (some .int), 8) := rfl
theorem mt_159 : mtb[159]? = some (yX8_bumps, cX8_bumps, 3, (some .int), 8) := rfl
theorem mt_160 : mtb[160]? = some (yX8_isAsked, cX8_isAsked, 2, (some .boolean), 8) := rfl
theorem mt_161 : mtb[161]? = some (yX8_tallest, cX8_tallest, 11, (some .int), 8) := rfl
theorem mt_162 : mtb[162]? = some (yX8_loud, cX8_loud, 4, (some .int), 8) := rfl
theorem mt_163 : mtb[163]? = some (yX8_lovedMost, cX8_lovedMost, 8, (some .int), 8) := rfl
theorem mt_164 : mtb[164]? = some (yX8_loved, cX8_loved, 4, (some .int), 8) := rfl
theorem mt_165 : mtb[165]? = some (yX8_becomes, cX8_becomes, 4, (some .int), 8) := rfl
theorem mt_166 : mtb[166]? = some (yX8_fee, cX8_fee, 2, (some .int), 8) := rfl
theorem mt_167 : mtb[167]? = some (yX8_fine, cX8_fine, 3, (some .int), 8) := rfl
theorem mt_168 : mtb[168]? = some (yX8_feed, cX8_feed, 6, (some .int), 8) := rfl
theorem mt_169 : mtb[169]? = some (yX8_trim, cX8_trim, 2, (some .int), 8) := rfl
theorem mt_170 : mtb[170]? = some (yX8_isLetter, cX8_isLetter, 2, (some .boolean), 8) := rfl
theorem mt_171 : mtb[171]? = some (yX8_isDigit, cX8_isDigit, 2, (some .boolean), 8) := rfl
theorem mt_172 : mtb[172]? = some (yX8_nextToken, cX8_nextToken, 3, none, 8) := rfl
theorem mt_173 : mtb[173]? = some (yX8_isSign, cX8_isSign, 2, (some .boolean), 8) := rfl
theorem mt_174 : mtb[174]? = some (yX8_isWordAt, cX8_isWordAt, 6, (some .boolean), 8) := rfl
theorem mt_175 : mtb[175]? = some (yX8_key, cX8_key, 1, (some .int), 8) := rfl
theorem mt_176 : mtb[176]? = some (yX8_isName, cX8_isName, 2, (some .boolean), 8) := rfl
theorem mt_177 : mtb[177]? = some (yX8_step, cX8_step, 3, none, 8) := rfl
theorem mt_178 : mtb[178]? = some (yX8_either, cX8_either, 2, (some .boolean), 8) := rfl
theorem mt_179 : mtb[179]? = some (yX8_both, cX8_both, 2, (some .boolean), 8) := rfl
theorem mt_180 : mtb[180]? = some (yX8_test, cX8_test, 3, (some .boolean), 8) := rfl
theorem mt_181 : mtb[181]? = some (yX8_sum, cX8_sum, 3, (some .boolean), 8) := rfl
theorem mt_182 : mtb[182]? = some (yX8_term, cX8_term, 3, (some .boolean), 8) := rfl
theorem mt_183 : mtb[183]? = some (yX8_part0, cX8_part0, 2, (some .boolean), 8) := rfl
theorem mt_184 : mtb[184]? = some (yX8_parse, cX8_parse, 3, (some .int), 8) := rfl
theorem mt_185 : mtb[185]? = some (yX8_text, cX8_text, 3, (some .int), 8) := rfl
theorem mt_186 : mtb[186]? = some (yX8_textTold, cX8_textTold, 3, (some .int), 8) := rfl
theorem mt_187 : mtb[187]? = some (yX8_counts, cX8_counts, 4, (some .int), 8) := rfl
theorem mt_188 : mtb[188]? = some (yX8_why, cX8_why, 2, (some .int), 8) := rfl
theorem mt_189 : mtb[189]? = some (yX8_joined, cX8_joined, 3, (some .int), 8) := rfl
theorem mt_190 : mtb[190]? = some (yX8_worked, cX8_worked, 6, (some .int), 8) := rfl
theorem mt_191 : mtb[191]? = some (yX8_isSheet, cX8_isSheet, 1, (some .boolean), 8) := rfl
theorem mt_192 : mtb[192]? = some (yX8_sheet, cX8_sheet, 5, (some .int), 8) := rfl
theorem mt_193 : mtb[193]? = some (yX8_mark, cX8_mark, 4, (some .int), 8) := rfl
theorem mt_194 : mtb[194]? = some (yX8_pour, cX8_pour, 6, (some .int), 8) := rfl
theorem mt_195 : mtb[195]? = some (yX8_reads, cX8_reads, 4, (some .int), 8) := rfl
theorem mt_196 : mtb[196]? = some (yX8_offBy, cX8_offBy, 6, (some .int), 8) := rfl
theorem mt_197 : mtb[197]? = some (yX8_like, cX8_like, 7, (some .int), 8) := rfl
theorem mt_198 : mtb[198]? = some (yX8_copy, cX8_copy, 7, (some .int), 8) := rfl
theorem mt_199 : mtb[199]? = some (yX8_isSlot, cX8_isSlot, 1, (some .boolean), 8) := rfl
theorem mt_200 : mtb[200]? = some (yX8_lay, cX8_lay, 7, (some .int), 8) := rfl
theorem mt_201 : mtb[201]? = some (yX8_ask, cX8_ask, 3, (some .int), 8) := rfl
theorem mt_202 : mtb[202]? = some (yX8_item, cX8_item, 4, (some .int), 8) := rfl
theorem mt_203 : mtb[203]? = some (yX8_rest, cX8_rest, 3, (some .int), 8) := rfl
theorem mt_204 : mtb[204]? = some (yX8_tell, cX8_tell, 2, (some .int), 8) := rfl
theorem mt_205 : mtb[205]? = some (yX8_setAside, cX8_setAside, 4, none, 8) := rfl
theorem mt_206 : mtb[206]? = some (yX8_check, cX8_check, 5, (some .int), 8) := rfl
theorem mt_207 : mtb[207]? = some (yX8_keep, cX8_keep, 1, (some .int), 8) := rfl
theorem mt_208 : mtb[208]? = some (yX8_back, cX8_back, 1, (some .int), 8) := rfl
theorem mt_209 : mtb[209]? = some (yX8_count, cX8_count, 2, (some .int), 8) := rfl
theorem mt_210 : mtb[210]? = some (yJ6_bitCount_0f7a4, cJ6_bitCount_0f7a4, 1, (some .int), 12) := rfl
theorem mt_211 : mtb[211]? = some (yJ0_length_8abf5, cJ0_length_8abf5, 1, (some .int), 9) := rfl
theorem mt_212 : mtb[212]? = some (yJ0_charAt_5068e, cJ0_charAt_5068e, 2, (some .char), 9) := rfl
theorem mt_213 : mtb[213]? = some (yJ0_indexOf_0f7a4, cJ0_indexOf_0f7a4, 2, (some .int), 9) := rfl
theorem mt_214 : mtb[214]? = some (yJ0_indexOf_7cf53, cJ0_indexOf_7cf53, 3, (some .int), 9) := rfl
theorem mt_215 : mtb[215]? = some (yJ0_coder_7d493, cJ0_coder_7d493, 1, (some .byte), 9) := rfl
theorem mt_216 : mtb[216]? = some (yJ0_isLatin1_aae02, cJ0_isLatin1_aae02, 1, (some .boolean), 9) := rfl
theorem mt_217 : mtb[217]? = some (yJ0_checkIndex_df160, cJ0_checkIndex_df160, 2, none, 9) := rfl
theorem mt_218 : mtb[218]? = some (yJ1_charAt_3b067, cJ1_charAt_3b067, 2, (some .char), 10) := rfl
theorem mt_219 : mtb[219]? = some (yJ1_canEncode_9a6ad, cJ1_canEncode_9a6ad, 1, (some .boolean), 10) := rfl
theorem mt_220 : mtb[220]? = some (yJ1_indexOf_4cfef, cJ1_indexOf_4cfef, 4, (some .int), 10) := rfl
theorem mt_221 : mtb[221]? = some (yJ1_indexOfChar_4cfef, cJ1_indexOfChar_4cfef, 6, (some .int), 10) := rfl
theorem mt_222 : mtb[222]? = some (yJ3_checkIndex_8e157, cJ3_checkIndex_8e157, 3, (some .int), 11) := rfl
theorem mt_223 : mtb[223]? = some (yL_law, cL_law, 4, (some .boolean), 14) := rfl
def ownL : List String := [RX0, RX1, RX2, RX3, RX4, RX5, RX6, RX7, RX8, RJ0, RJ1, RJ3, RJ6, RJ9, RL]
def ownN (k : Nat) : String := ownL.getD k ""
def fldT : List (Nat × Nat × Nat × Nat × Nat) := [(1, 11, 0, 0, 110), (1, 17, 0, 1, 112), (1, 22, 4, 1, 92), (1, 26, 4, 0, 90), (2, 9, 1, 0, 124), (2, 15, 1, 1, 125), (2, 19, 1, 2, 127), (2, 22, 1, 3, 128), (2, 25, 1, 4, 129), (2, 28, 1, 5, 130), (2, 31, 1, 6, 131), (2, 34, 1, 7, 132), (2, 37, 4, 1, 93), (2, 42, 4, 3, 98), (2, 61, 4, 2, 95), (3, 9, 2, 0, 238), (3, 15, 2, 1, 240), (3, 19, 2, 2, 242), (4, 10, 3, 0, 258), (4, 16, 3, 1, 260), (4, 20, 3, 2, 262), (4, 23, 3, 3, 264), (4, 26, 3, 4, 266), (5, 9, 4, 0, 89), (5, 15, 4, 1, 91), (5, 19, 4, 2, 94), (5, 22, 4, 3, 97), (6, 9, 5, 1, 158), (6, 15, 5, 2, 160), (6, 18, 5, 3, 162), (6, 21, 5, 4, 164), (6, 24, 5, 5, 166), (6, 27, 5, 6, 168), (6, 30, 5, 7, 170), (6, 33, 5, 8, 172), (6, 36, 5, 9, 174), (6, 39, 5, 10, 176), (6, 43, 5, 11, 178), (6, 46, 5, 12, 180), (6, 49, 5, 13, 182), (6, 52, 5, 14, 184), (6, 55, 5, 15, 186), (6, 58, 5, 16, 188), (6, 61, 5, 17, 190), (6, 64, 5, 0, 157), (7, 10, 6, 0, 279), (7, 19, 6, 1, 280), (7, 28, 6, 2, 281), (7, 32, 6, 3, 282), (7, 35, 6, 4, 283), (7, 40, 6, 5, 284), (7, 46, 6, 6, 285), (7, 50, 6, 7, 286), (7, 54, 6, 8, 287), (7, 57, 6, 9, 288), (7, 61, 6, 10, 289), (7, 81, 5, 10, 177), (7, 92, 5, 1, 159), (7, 95, 5, 2, 161), (7, 98, 5, 3, 163), (7, 101, 5, 4, 165), (7, 104, 5, 5, 167), (7, 128, 5, 7, 171), (7, 131, 5, 11, 179), (7, 135, 5, 8, 173), (7, 147, 5, 16, 189), (7, 156, 5, 6, 169), (7, 162, 5, 12, 181), (7, 165, 5, 15, 187), (7, 172, 5, 13, 183), (7, 175, 5, 14, 185), (7, 197, 2, 1, 241), (7, 205, 5, 9, 175), (7, 211, 1, 1, 126), (7, 217, 5, 17, 191), (7, 220, 0, 0, 111), (7, 227, 4, 2, 96), (7, 232, 4, 3, 99), (7, 242, 2, 2, 243), (7, 246, 2, 0, 239), (7, 263, 3, 1, 261), (7, 266, 3, 2, 263), (7, 269, 3, 3, 265), (7, 272, 3, 0, 259), (7, 278, 3, 4, 267), (8, 7, 7, 0, 866), (8, 13, 7, 1, 867), (8, 16, 7, 2, 868), (8, 19, 7, 4, 870), (8, 22, 7, 5, 871), (8, 25, 7, 6, 872), (8, 28, 7, 7, 873), (8, 31, 7, 8, 874), (8, 34, 7, 9, 875), (8, 37, 7, 10, 876), (8, 40, 7, 11, 877), (8, 43, 7, 12, 878), (8, 46, 7, 13, 879), (8, 49, 7, 14, 880), (8, 52, 7, 26, 892), (8, 55, 7, 27, 893), (8, 58, 7, 28, 894), (8, 61, 7, 29, 895), (8, 64, 7, 31, 897), (8, 214, 7, 15, 881), (8, 226, 7, 17, 883), (8, 229, 7, 18, 884), (8, 232, 7, 16, 882), (8, 238, 7, 20, 886), (8, 244, 7, 19, 885), (8, 251, 7, 24, 890), (8, 254, 7, 23, 889), (8, 282, 7, 25, 891), (8, 288, 7, 22, 888), (8, 291, 7, 21, 887), (8, 330, 7, 30, 896), (8, 335, 7, 3, 869)]
def mthT : List (Nat × Nat × Nat × Nat × Nat × Nat × Nat × Nat × Nat × Nat) := [(1, 21, 27, 4, 0, 85, 86, 0, 53, 87), (1, 29, 6, 0, 3, 376, 377, 0, 52, 378), (2, 45, 10, 1, 0, 603, 604, 605, 54, 606), (2, 50, 12, 1, 1, 613, 614, 615, 54, 616), (2, 58, 14, 1, 0, 667, 668, 669, 54, 670), (2, 64, 17, 1, 2, 671, 673, 4, 54, 674), (2, 68, 11, 1, 1, 607, 608, 609, 54, 610), (2, 78, 211, 1, 0, 617, 618, 619, 63, 620), (2, 83, 212, 1, 1, 627, 628, 629, 63, 630), (2, 97, 15, 0, 1, 761, 762, 0, 54, 763), (2, 101, 213, 1, 1, 698, 699, 700, 63, 701), (2, 104, 18, 1, 1, 675, 677, 5, 54, 678), (2, 108, 16, 1, 1, 757, 758, 759, 54, 760), (2, 112, 28, 1, 1, 687, 688, 689, 53, 690), (2, 116, 20, 1, 0, 679, 680, 681, 54, 682), (2, 119, 19, 1, 2, 683, 684, 685, 54, 686), (2, 123, 21, 1, 1, 691, 692, 693, 54, 694), (2, 126, 13, 1, 1, 753, 754, 755, 54, 756), (4, 9, 22, 4, 0, 257, 235, 0, 56, 236), (6, 75, 37, 1, 0, 445, 446, 447, 55, 448), (6, 79, 39, 1, 1, 450, 451, 452, 55, 453), (6, 83, 33, 1, 5, 455, 331, 332, 55, 333), (6, 87, 32, 1, 1, 454, 325, 326, 55, 327), (6, 91, 41, 1, 3, 358, 359, 360, 55, 361), (6, 101, 40, 1, 1, 354, 355, 356, 55, 357), (6, 104, 43, 1, 2, 365, 366, 367, 55, 368), (6, 110, 5, 1, 4, 372, 373, 374, 52, 375), (6, 119, 2, 0, 2, 382, 383, 0, 60, 384), (6, 124, 42, 1, 1, 350, 351, 352, 55, 353), (6, 127, 44, 1, 0, 346, 347, 348, 55, 349), (6, 130, 210, 0, 1, 385, 386, 0, 61, 387), (6, 135, 47, 1, 0, 483, 484, 485, 55, 486), (6, 138, 48, 1, 0, 492, 493, 494, 55, 495), (6, 141, 49, 1, 0, 497, 498, 499, 55, 500), (6, 144, 1, 0, 2, 487, 392, 0, 60, 393), (6, 147, 98, 3, 3, 488, 489, 0, 51, 490), (6, 150, 34, 1, 2, 496, 420, 421, 55, 422), (7, 9, 4, 2, 0, 78, 79, 0, 52, 80), (7, 18, 7, 4, 0, 120, 121, 0, 54, 122), (7, 25, 29, 2, 1, 153, 154, 0, 55, 155), (7, 65, 22, 4, 0, 234, 235, 0, 56, 236), (7, 66, 26, 4, 0, 252, 253, 0, 57, 254), (7, 67, 97, 0, 3, 317, 318, 0, 51, 319), (7, 71, 99, 0, 2, 320, 321, 0, 51, 322), (7, 76, 32, 1, 1, 324, 325, 326, 55, 327), (7, 85, 33, 1, 5, 330, 331, 332, 55, 333), (7, 89, 31, 1, 1, 338, 339, 340, 55, 341), (7, 107, 45, 1, 1, 342, 343, 344, 55, 345), (7, 111, 1, 0, 2, 391, 392, 0, 60, 393), (7, 117, 3, 0, 2, 394, 395, 0, 60, 396), (7, 120, 0, 0, 2, 401, 402, 0, 60, 403), (7, 124, 34, 1, 2, 419, 420, 421, 55, 422), (7, 143, 38, 1, 0, 441, 442, 443, 55, 444), (7, 150, 42, 1, 1, 464, 351, 352, 55, 353), (7, 153, 44, 1, 0, 469, 347, 348, 55, 349), (7, 159, 40, 1, 1, 474, 355, 356, 55, 357), (7, 168, 46, 1, 1, 479, 480, 481, 55, 482), (7, 178, 36, 1, 0, 505, 506, 507, 55, 508), (7, 182, 30, 1, 1, 513, 514, 515, 55, 516), (7, 186, 101, 1, 3, 532, 534, 0, 51, 535), (7, 190, 100, 1, 3, 544, 546, 1, 51, 547), (7, 193, 102, 1, 4, 548, 550, 2, 51, 551), (7, 201, 103, 1, 1, 569, 571, 3, 51, 572), (7, 208, 5, 1, 4, 578, 373, 374, 52, 375), (7, 214, 8, 1, 1, 587, 588, 589, 54, 590), (7, 223, 9, 1, 1, 599, 600, 601, 54, 602), (7, 236, 23, 1, 2, 782, 783, 784, 56, 785), (7, 239, 104, 1, 1, 790, 792, 6, 51, 793), (7, 251, 98, 0, 3, 801, 489, 0, 51, 490), (7, 254, 25, 1, 2, 810, 811, 812, 56, 813), (7, 276, 24, 1, 1, 819, 820, 821, 56, 822), (7, 281, 105, 1, 2, 828, 830, 7, 51, 831), (7, 287, 35, 1, 3, 552, 553, 554, 55, 555), (8, 68, 107, 0, 3, 968, 969, 0, 58, 970), (8, 75, 113, 1, 2, 991, 993, 10, 58, 994), (8, 79, 121, 1, 1, 987, 989, 9, 58, 990), (8, 83, 120, 1, 1, 995, 997, 11, 58, 998), (8, 87, 114, 1, 3, 1005, 1007, 13, 58, 1008), (8, 101, 119, 0, 1, 971, 972, 0, 58, 973), (8, 104, 124, 0, 3, 975, 976, 0, 58, 977), (8, 109, 122, 1, 1, 983, 985, 8, 58, 986), (8, 114, 123, 1, 5, 1001, 1003, 12, 58, 1004), (8, 118, 128, 1, 3, 1030, 1032, 18, 58, 1033), (8, 121, 187, 1, 1, 1041, 1043, 20, 58, 1044), (8, 124, 190, 1, 1, 1049, 1051, 22, 58, 1052), (8, 127, 109, 0, 2, 1056, 1057, 0, 58, 1058), (8, 130, 129, 1, 2, 1026, 1028, 17, 58, 1029), (8, 134, 110, 0, 2, 1034, 1035, 0, 58, 1036), (8, 137, 130, 1, 2, 1037, 1039, 19, 58, 1040), (8, 140, 131, 1, 1, 1022, 1024, 16, 58, 1025), (8, 143, 115, 1, 1, 1013, 1015, 14, 58, 1016), (8, 148, 132, 1, 1, 1018, 1020, 15, 58, 1021), (8, 151, 133, 0, 1, 1059, 1060, 0, 58, 1061), (8, 154, 126, 1, 2, 1062, 1064, 23, 58, 1065), (8, 157, 127, 1, 1, 1066, 1068, 24, 58, 1069), (8, 160, 118, 0, 2, 1074, 1075, 0, 58, 1076), (8, 164, 111, 1, 2, 1082, 1084, 25, 58, 1085), (8, 167, 108, 0, 1, 1102, 1103, 0, 58, 1104), (8, 176, 117, 1, 0, 1117, 1119, 26, 58, 1120), (8, 180, 147, 1, 0, 1150, 1152, 29, 58, 1153), (8, 183, 148, 1, 0, 1146, 1148, 28, 58, 1149), (8, 186, 149, 1, 1, 1142, 1144, 27, 58, 1145), (8, 192, 151, 1, 0, 1159, 1161, 30, 58, 1162), (8, 195, 153, 1, 0, 1175, 1177, 31, 58, 1178), (8, 198, 154, 1, 0, 1179, 1181, 32, 58, 1182), (8, 203, 160, 0, 2, 1195, 1196, 0, 58, 1197), (8, 206, 161, 1, 6, 1199, 1201, 33, 58, 1202), (8, 210, 163, 1, 3, 1207, 1209, 34, 58, 1210), (8, 235, 170, 1, 1, 1243, 1245, 37, 58, 1246), (8, 241, 171, 1, 1, 1249, 1251, 38, 58, 1252), (8, 247, 174, 1, 4, 1259, 1261, 40, 58, 1262), (8, 257, 179, 1, 1, 1267, 1269, 42, 58, 1270), (8, 260, 173, 1, 1, 1294, 1296, 48, 58, 1297), (8, 263, 172, 1, 0, 1239, 1241, 36, 58, 1242), (8, 266, 177, 1, 2, 1287, 1289, 47, 58, 1290), (8, 270, 180, 1, 1, 1271, 1273, 43, 58, 1274), (8, 273, 181, 1, 1, 1275, 1277, 44, 58, 1278), (8, 276, 182, 1, 1, 1279, 1281, 45, 58, 1282), (8, 279, 183, 1, 1, 1283, 1285, 46, 58, 1286), (8, 285, 176, 0, 2, 1291, 1292, 0, 58, 1293), (8, 294, 178, 1, 1, 1263, 1265, 41, 58, 1266), (8, 297, 112, 1, 1, 1045, 1047, 21, 58, 1048), (8, 300, 175, 1, 0, 1255, 1257, 39, 58, 1258), (8, 303, 184, 1, 0, 1235, 1237, 35, 58, 1238), (8, 306, 116, 1, 1, 1302, 1304, 49, 58, 1305), (8, 309, 189, 0, 3, 1053, 1054, 0, 58, 1055), (8, 314, 191, 0, 1, 1314, 1315, 0, 58, 1316), (8, 324, 196, 1, 2, 1339, 1341, 50, 58, 1342), (8, 327, 199, 0, 1, 1351, 1352, 0, 58, 1353), (8, 339, 205, 1, 2, 1375, 1377, 51, 58, 1378), (9, 335, 215, 1, 0, 621, 622, 623, 63, 624), (9, 492, 216, 1, 0, 631, 632, 633, 63, 634), (9, 495, 218, 0, 2, 635, 636, 0, 64, 637), (9, 505, 211, 1, 0, 706, 618, 619, 63, 620), (9, 633, 214, 1, 2, 702, 703, 704, 63, 705), (9, 637, 220, 0, 4, 707, 708, 0, 64, 709), (9, 1059, 222, 0, 3, 643, 644, 0, 65, 645), (10, 9, 217, 0, 2, 638, 639, 0, 63, 640), (10, 88, 219, 0, 1, 710, 711, 0, 64, 712), (10, 95, 221, 0, 4, 715, 716, 0, 64, 717), (14, 9, 50, 2, 0, 70, 71, 0, 51, 72), (14, 12, 106, 2, 0, 862, 863, 0, 58, 864), (14, 13, 51, 1, 5, 313, 314, 315, 51, 316), (14, 17, 125, 1, 5, 963, 964, 965, 58, 966), (14, 18, 52, 1, 2, 334, 335, 336, 51, 337), (14, 22, 134, 1, 2, 1009, 1010, 1011, 58, 1012), (14, 23, 53, 1, 2, 397, 398, 399, 51, 400), (14, 26, 135, 1, 2, 1070, 1071, 1072, 58, 1073), (14, 27, 54, 1, 2, 407, 408, 409, 51, 410), (14, 30, 136, 1, 2, 1078, 1079, 1080, 58, 1081), (14, 31, 55, 1, 3, 411, 412, 413, 51, 414), (14, 35, 137, 1, 3, 1086, 1087, 1088, 58, 1089), (14, 36, 56, 1, 2, 415, 416, 417, 51, 418), (14, 39, 138, 1, 2, 1090, 1091, 1092, 58, 1093), (14, 40, 57, 1, 2, 423, 424, 425, 51, 426), (14, 43, 139, 1, 2, 1094, 1095, 1096, 58, 1097), (14, 44, 58, 1, 1, 427, 428, 429, 51, 430), (14, 48, 140, 1, 1, 1098, 1099, 1100, 58, 1101), (14, 49, 59, 1, 2, 432, 433, 434, 51, 435), (14, 52, 141, 1, 2, 1106, 1107, 1108, 58, 1109), (14, 53, 60, 1, 1, 436, 437, 438, 51, 439), (14, 56, 142, 1, 1, 1112, 1113, 1114, 58, 1115), (14, 57, 61, 1, 1, 456, 457, 458, 51, 459), (14, 60, 143, 1, 1, 1122, 1123, 1124, 58, 1125), (14, 61, 62, 1, 1, 460, 461, 462, 51, 463), (14, 64, 144, 1, 1, 1126, 1127, 1128, 58, 1129), (14, 65, 63, 1, 1, 465, 466, 467, 51, 468), (14, 68, 145, 1, 1, 1130, 1131, 1132, 58, 1133), (14, 69, 64, 1, 1, 470, 471, 472, 51, 473), (14, 72, 146, 1, 1, 1134, 1135, 1136, 58, 1137), (14, 73, 65, 1, 1, 475, 476, 477, 51, 478), (14, 76, 150, 1, 1, 1138, 1139, 1140, 58, 1141), (14, 77, 66, 1, 1, 501, 502, 503, 51, 504), (14, 80, 152, 1, 1, 1154, 1155, 1156, 58, 1157), (14, 81, 67, 1, 2, 509, 510, 511, 51, 512), (14, 84, 155, 1, 2, 1163, 1164, 1165, 58, 1166), (14, 85, 68, 1, 2, 520, 521, 522, 51, 523), (14, 88, 156, 1, 2, 1167, 1168, 1169, 58, 1170), (14, 89, 69, 1, 2, 524, 525, 526, 51, 527), (14, 92, 157, 1, 2, 1171, 1172, 1173, 58, 1174), (14, 93, 70, 1, 1, 528, 529, 530, 51, 531), (14, 96, 158, 1, 1, 1183, 1184, 1185, 58, 1186), (14, 97, 71, 1, 1, 536, 537, 538, 51, 539), (14, 100, 159, 1, 1, 1187, 1188, 1189, 58, 1190), (14, 101, 72, 1, 3, 540, 541, 542, 51, 543), (14, 104, 162, 1, 3, 1191, 1192, 1193, 58, 1194), (14, 105, 73, 1, 3, 556, 557, 558, 51, 559), (14, 108, 164, 1, 3, 1203, 1204, 1205, 58, 1206), (14, 109, 74, 1, 3, 560, 561, 562, 51, 563), (14, 112, 165, 1, 3, 1211, 1212, 1213, 58, 1214), (14, 113, 75, 1, 2, 564, 565, 566, 51, 567), (14, 116, 197, 1, 2, 1335, 1336, 1337, 58, 1338), (14, 117, 76, 1, 0, 574, 575, 576, 51, 577), (14, 121, 166, 1, 0, 1215, 1216, 1217, 58, 1218), (14, 122, 77, 1, 1, 579, 580, 581, 51, 582), (14, 125, 167, 1, 1, 1219, 1220, 1221, 58, 1222), (14, 126, 78, 1, 3, 583, 584, 585, 51, 586), (14, 129, 168, 1, 3, 1223, 1224, 1225, 58, 1226), (14, 130, 79, 1, 1, 591, 592, 593, 51, 594), (14, 133, 169, 1, 1, 1227, 1228, 1229, 58, 1230), (14, 134, 80, 1, 0, 595, 596, 597, 51, 598), (14, 137, 185, 1, 0, 1231, 1232, 1233, 58, 1234), (14, 138, 81, 1, 2, 769, 770, 771, 51, 772), (14, 141, 186, 1, 2, 1298, 1299, 1300, 58, 1301), (14, 142, 82, 1, 1, 773, 774, 775, 51, 776), (14, 145, 188, 1, 1, 1306, 1307, 1308, 58, 1309), (14, 146, 83, 1, 3, 777, 778, 779, 51, 780), (14, 149, 192, 1, 3, 1310, 1311, 1312, 58, 1313), (14, 150, 84, 1, 3, 786, 787, 788, 51, 789), (14, 153, 193, 1, 3, 1319, 1320, 1321, 58, 1322), (14, 154, 85, 1, 1, 797, 798, 799, 51, 800), (14, 157, 194, 1, 1, 1327, 1328, 1329, 58, 1330), (14, 158, 86, 1, 1, 802, 803, 804, 51, 805), (14, 161, 195, 1, 1, 1331, 1332, 1333, 58, 1334), (14, 162, 87, 1, 5, 806, 807, 808, 51, 809), (14, 165, 198, 1, 5, 1343, 1344, 1345, 58, 1346), (14, 166, 88, 1, 3, 815, 816, 817, 51, 818), (14, 169, 200, 1, 3, 1347, 1348, 1349, 58, 1350), (14, 170, 89, 1, 2, 824, 825, 826, 51, 827), (14, 173, 201, 1, 2, 1354, 1355, 1356, 58, 1357), (14, 174, 90, 1, 2, 832, 833, 834, 51, 835), (14, 177, 202, 1, 2, 1358, 1359, 1360, 58, 1361), (14, 178, 91, 1, 2, 836, 837, 838, 51, 839), (14, 181, 203, 1, 2, 1362, 1363, 1364, 58, 1365), (14, 182, 92, 1, 1, 840, 841, 842, 51, 843), (14, 185, 204, 1, 1, 1366, 1367, 1368, 58, 1369), (14, 186, 93, 1, 1, 844, 845, 846, 51, 847), (14, 189, 206, 1, 1, 1370, 1371, 1372, 58, 1373), (14, 190, 94, 1, 0, 848, 849, 850, 51, 851), (14, 193, 207, 1, 0, 1379, 1380, 1381, 58, 1382), (14, 194, 95, 1, 0, 852, 853, 854, 51, 855), (14, 197, 208, 1, 0, 1383, 1384, 1385, 58, 1386), (14, 198, 96, 1, 1, 856, 857, 858, 51, 859), (14, 201, 209, 1, 1, 1387, 1388, 1389, 58, 1390)]
def cstT : List (Nat × Nat × Int32 × Nat) := [(6, 74, 1103515245, 449), (7, 75, (-1000000001), 323), (7, 80, (-1000000002), 328), (7, 84, (-1000000003), 329), (7, 123, (-1000000012), 406), (7, 134, (-1000000005), 431), (7, 200, (-1000000011), 568), (7, 235, (-1000000014), 781), (7, 245, (-1000000013), 794), (7, 249, (-99999), 795), (7, 250, 99999, 796), (8, 67, (-1000000005), 1105), (8, 72, 1103515245, 1121), (8, 108, (-1000000001), 982), (8, 112, (-1000000002), 999), (8, 113, (-1000000003), 1000), (8, 163, (-1000000012), 1077), (8, 317, (-1000000014), 1318), (8, 318, (-1000000011), 1323), (8, 319, (-1000000013), 1324), (12, 265, 1431655765, 388), (12, 266, 858993459, 389), (12, 267, 252645135, 390)]
def lngT : List (Nat × Nat × Int64 × Nat) := [(8, 73, 19, 974), (8, 91, 200, 978), (8, 93, 50, 979), (8, 95, (-1), 980), (8, 97, 7, 981), (8, 99, 5, 967), (8, 146, 6, 1017), (8, 170, 2, 1110), (8, 172, 100, 1111), (8, 174, 8, 1116), (8, 190, 4, 1158), (8, 201, 60, 1198), (8, 218, 97, 1247), (8, 220, 122, 1248), (8, 222, 48, 1253), (8, 224, 57, 1254), (8, 312, 3, 1317), (8, 320, (-99999), 1325), (8, 322, 99999, 1326), (8, 333, 30, 1374)]
def strT : List (Nat × Nat × Nat × Nat) := [(2, 48, 0, 612), (2, 54, 1, 665), (2, 56, 2, 666), (2, 87, 3, 764), (2, 89, 4, 765), (2, 91, 5, 766), (2, 93, 6, 767), (2, 95, 7, 768), (2, 130, 8, 695), (2, 132, 9, 696), (2, 134, 10, 697)]
def newT : List (Nat × Nat × Nat × Nat) := [(1, 9, 4, 82), (4, 7, 2, 256), (7, 7, 0, 76), (7, 16, 1, 118), (7, 23, 5, 151), (7, 38, 2, 229), (7, 44, 3, 231), (14, 7, 6, 68), (14, 10, 7, 860)]
def anwT : List (Nat × Nat × Nat × Nat) := [(1, 9, 4, 82), (7, 38, 2, 229), (7, 44, 3, 231)]
def objT : List (Nat × Nat × Nat) := [(1, 3, 81), (2, 3, 123), (3, 3, 237), (4, 1, 255), (5, 3, 88), (6, 3, 156), (7, 1, 73), (8, 1, 865)]
def acpT : List (Nat × Nat × Nat) := [(3, 22, 823), (6, 68, 517), (7, 257, 814)]
def gstT : List (Nat × Nat × Nat × Nat) := [(0, 9, 0, 404), (9, 38, 1, 625), (9, 1053, 2, 641)]
def sfdT : List (Nat × Nat × Nat × Nat) := [(9, 9, 0, 1391), (9, 15, 1, 1392)]
def matT : List (Nat × Nat × Nat × Nat) := [(2, 72, 1, 611), (6, 95, 0, 362), (6, 107, 2, 369), (6, 116, 1, 379), (7, 138, 1, 440), (7, 284, 0, 491), (7, 291, 2, 573), (10, 38, 1, 714), (10, 92, 0, 713)]
def strX : List (List Int32) := [[112, 117, 108, 108], [102, 101, 101], [102, 105, 110, 101], [124], [38], [60, 61, 62], [43, 45], [42, 47], [115, 110, 102], [103, 118], [115, 112]]
def strN : List String := ["pull", "fee", "fine", "|", "&", "<=>", "+-", "*/", "snf", "gv", "sp"]
def fldE (own idx : Nat) := fldT.find? (fun e => e.1 == own && e.2.1 == idx)
def mthE (own idx : Nat) := mthT.find? (fun e => e.1 == own && e.2.1 == idx)
def cstE (own idx : Nat) := cstT.find? (fun e => e.1 == own && e.2.1 == idx)
def lngE (own idx : Nat) := lngT.find? (fun e => e.1 == own && e.2.1 == idx)
def strE (own idx : Nat) := strT.find? (fun e => e.1 == own && e.2.1 == idx)
def newE (own idx : Nat) := newT.find? (fun e => e.1 == own && e.2.1 == idx)
def anwE (own idx : Nat) := anwT.find? (fun e => e.1 == own && e.2.1 == idx)
def objE (own idx : Nat) := objT.find? (fun e => e.1 == own && e.2.1 == idx)
def acpE (own idx : Nat) := acpT.find? (fun e => e.1 == own && e.2.1 == idx)
def gstE (own idx : Nat) := gstT.find? (fun e => e.1 == own && e.2.1 == idx)
def sfdE (own idx : Nat) := sfdT.find? (fun e => e.1 == own && e.2.1 == idx)
def matE (own idx : Nat) := matT.find? (fun e => e.1 == own && e.2.1 == idx)
