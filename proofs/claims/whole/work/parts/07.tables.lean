/-! the tables of the system: written by program (wip/whole/gen2.py) -/
abbrev aMt : Type := MethodName × ByteArray × Nat × Option FieldType × Nat
def mtb : List aMt := [(yX0_isUnder, cX0_isUnder, 4, (some .boolean), 0),
  (yX0_growth, cX0_growth, 3, (some .int), 0),
  (yX0_pull, cX0_pull, 2, (some .int), 0),
  (yX0_worth, cX0_worth, 2, (some .int), 0),
  (yX1_init, cX1_init, 2, none, 1),
  (yX1_value, cX1_value, 9, (some .int), 1),
  (yX1_joined, cX1_joined, 3, (some .int), 1),
  (yX2_init, cX2_init, 1, none, 2),
  (yX2_takes, cX2_takes, 3, none, 2),
  (yX2_parse, cX2_parse, 3, (some .int), 2),
  (yX2_next, cX2_next, 4, none, 2),
  (yX2_sortAt, cX2_sortAt, 3, (some .int), 2),
  (yX2_isWord, cX2_isWord, 4, (some .boolean), 2),
  (yX2_isSign, cX2_isSign, 2, (some .boolean), 2),
  (yX2_fails, cX2_fails, 1, none, 2),
  (yX2_signsOf, cX2_signsOf, 1, (some (.object "java/lang/String")), 2),
  (yX2_isSignOf, cX2_isSignOf, 2, (some .boolean), 2),
  (yX2_level, cX2_level, 6, none, 2),
  (yX2_piece, cX2_piece, 2, none, 2),
  (yX2_leaf, cX2_leaf, 3, none, 2),
  (yX2_number, cX2_number, 3, (some .int), 2),
  (yX2_nameOf, cX2_nameOf, 3, (some .int), 2),
  (yX3_init, cX3_init, 1, none, 3),
  (yX3_clears, cX3_clears, 4, none, 3),
  (yX3_takesAfter, cX3_takesAfter, 2, none, 3),
  (yX3_hasPart, cX3_hasPart, 3, (some .boolean), 3),
  (yX4_init, cX4_init, 1, none, 4),
  (yX5_init, cX5_init, 1, none, 5),
  (yX5_adds, cX5_adds, 2, none, 5),
  (yX6_init, cX6_init, 3, none, 6),
  (yX6_takesAfter, cX6_takesAfter, 2, none, 6),
  (yX6_has, cX6_has, 2, (some .boolean), 6),
  (yX6_isFree, cX6_isFree, 2, (some .boolean), 6),
  (yX6_comes, cX6_comes, 7, (some .int), 6),
  (yX6_settle, cX6_settle, 3, none, 6),
  (yX6_supposes, cX6_supposes, 4, none, 6),
  (yX6_sizesTogether, cX6_sizesTogether, 3, (some .int), 6),
  (yX6_draw, cX6_draw, 1, (some .int), 6),
  (yX6_drawsOne, cX6_drawsOne, 6, (some .boolean), 6),
  (yX6_freeFrom, cX6_freeFrom, 4, (some .int), 6),
  (yX6_seenBy, cX6_seenBy, 4, (some .int), 6),
  (yX6_seenAlong, cX6_seenAlong, 9, (some .int), 6),
  (yX6_lookOf, cX6_lookOf, 7, (some .int), 6),
  (yX6_pullOn, cX6_pullOn, 8, (some .int), 6),
  (yX6_lookAll, cX6_lookAll, 3, none, 6),
  (yX6_eyesOn, cX6_eyesOn, 2, (some .int), 6),
  (yX6_live, cX6_live, 3, none, 6),
  (yX6_growAll, cX6_growAll, 5, none, 6),
  (yX6_wander, cX6_wander, 4, none, 6),
  (yX6_clamour, cX6_clamour, 3, none, 6),
  (yX7_init, cX7_init, 2, none, 7),
  (yX7_one, cX7_one, 7, (some .int), 7),
  (yX7_told, cX7_told, 3, (some .int), 7),
  (yX7_as, cX7_as, 3, (some .int), 7),
  (yX7_turns, cX7_turns, 4, (some .int), 7),
  (yX7_set, cX7_set, 6, (some .int), 7),
  (yX7_moves, cX7_moves, 4, (some .int), 7),
  (yX7_screen, cX7_screen, 4, (some .int), 7),
  (yX7_at, cX7_at, 2, (some .int), 7),
  (yX7_rule, cX7_rule, 4, (some .int), 7),
  (yX7_deal, cX7_deal, 4, (some .int), 7),
  (yX7_seed, cX7_seed, 3, (some .int), 7),
  (yX7_looks, cX7_looks, 3, (some .int), 7),
  (yX7_eyes, cX7_eyes, 2, (some .int), 7),
  (yX7_sees, cX7_sees, 2, (some .int), 7),
  (yX7_days, cX7_days, 3, (some .int), 7),
  (yX7_town, cX7_town, 2, (some .int), 7),
  (yX7_curtain, cX7_curtain, 7, (some .int), 7),
  (yX7_seat, cX7_seat, 7, (some .int), 7),
  (yX7_behind, cX7_behind, 3, (some .int), 7),
  (yX7_vanishes, cX7_vanishes, 2, (some .int), 7),
  (yX7_bumps, cX7_bumps, 2, (some .int), 7),
  (yX7_loud, cX7_loud, 4, (some .int), 7),
  (yX7_loved, cX7_loved, 4, (some .int), 7),
  (yX7_becomes, cX7_becomes, 4, (some .int), 7),
  (yX7_like, cX7_like, 5, (some .int), 7),
  (yX7_fee, cX7_fee, 2, (some .int), 7),
  (yX7_fine, cX7_fine, 3, (some .int), 7),
  (yX7_feed, cX7_feed, 4, (some .int), 7),
  (yX7_trim, cX7_trim, 2, (some .int), 7),
  (yX7_text, cX7_text, 4, (some .int), 7),
  (yX7_textTold, cX7_textTold, 3, (some .int), 7),
  (yX7_why, cX7_why, 2, (some .int), 7),
  (yX7_sheet, cX7_sheet, 5, (some .int), 7),
  (yX7_mark, cX7_mark, 6, (some .int), 7),
  (yX7_pour, cX7_pour, 7, (some .int), 7),
  (yX7_reads, cX7_reads, 6, (some .int), 7),
  (yX7_copy, cX7_copy, 8, (some .int), 7),
  (yX7_lay, cX7_lay, 6, (some .int), 7),
  (yX7_ask, cX7_ask, 5, (some .int), 7),
  (yX7_item, cX7_item, 5, (some .int), 7),
  (yX7_rest, cX7_rest, 4, (some .int), 7),
  (yX7_tell, cX7_tell, 2, (some .int), 7),
  (yX7_check, cX7_check, 6, (some .int), 7),
  (yX7_keep, cX7_keep, 1, (some .int), 7),
  (yX7_back, cX7_back, 1, (some .int), 7),
  (yX7_count, cX7_count, 2, (some .int), 7),
  (yX7_isWithin, cX7_isWithin, 3, (some .boolean), 7),
  (yX7_held, cX7_held, 3, (some .int), 7),
  (yX7_isValue, cX7_isValue, 2, (some .boolean), 7),
  (yX7_isSupposable, cX7_isSupposable, 4, (some .boolean), 7),
  (yX7_firstDay, cX7_firstDay, 5, (some .int), 7),
  (yX7_tallest, cX7_tallest, 10, (some .int), 7),
  (yX7_addDifferences, cX7_addDifferences, 4, none, 7),
  (yX7_sheetFinding, cX7_sheetFinding, 2, (some .int), 7),
  (yX7_slotFinding, cX7_slotFinding, 3, (some .int), 7),
  (yX8_init, cX8_init, 2, none, 8),
  (yX8_isIn, cX8_isIn, 6, (some .boolean), 8),
  (yX8_orNone, cX8_orNone, 1, (some .int), 8),
  (yX8_within, cX8_within, 2, (some .int), 8),
  (yX8_off, cX8_off, 2, (some .int), 8),
  (yX8_changes, cX8_changes, 4, (some .int), 8),
  (yX8_textAt, cX8_textAt, 2, (some .int), 8),
  (yX8_of, cX8_of, 3, (some .int), 8),
  (yX8_sets, cX8_sets, 4, none, 8),
  (yX8_isOne, cX8_isOne, 2, (some .boolean), 8),
  (yX8_isText, cX8_isText, 2, (some .boolean), 8),
  (yX8_drawn, cX8_drawn, 1, (some .int), 8),
  (yX8_isOf, cX8_isOf, 2, (some .boolean), 8),
  (yX8_isPlace, cX8_isPlace, 1, (some .boolean), 8),
  (yX8_isScreen, cX8_isScreen, 2, (some .boolean), 8),
  (yX8_whose, cX8_whose, 3, (some .int), 8),
  (yX8_isFree, cX8_isFree, 2, (some .boolean), 8),
  (yX8_comes, cX8_comes, 7, none, 8),
  (yX8_isOneSo, cX8_isOneSo, 3, (some .boolean), 8),
  (yX8_one, cX8_one, 6, (some .int), 8),
  (yX8_grows, cX8_grows, 4, (some .int), 8),
  (yX8_worth, cX8_worth, 3, (some .int), 8),
  (yX8_isClear, cX8_isClear, 10, (some .boolean), 8),
  (yX8_doesSee, cX8_doesSee, 5, (some .boolean), 8),
  (yX8_pulls, cX8_pulls, 5, (some .int), 8),
  (yX8_looksAt, cX8_looksAt, 8, (some .int), 8),
  (yX8_eyesOf, cX8_eyesOf, 4, (some .int), 8),
  (yX8_many, cX8_many, 3, (some .int), 8),
  (yX8_told, cX8_told, 3, (some .int), 8),
  (yX8_as, cX8_as, 3, (some .int), 8),
  (yX8_turns, cX8_turns, 3, (some .int), 8),
  (yX8_set, cX8_set, 5, (some .int), 8),
  (yX8_moves, cX8_moves, 3, (some .int), 8),
  (yX8_screen, cX8_screen, 4, (some .int), 8),
  (yX8_at, cX8_at, 2, (some .int), 8),
  (yX8_rule, cX8_rule, 3, (some .int), 8),
  (yX8_deal, cX8_deal, 10, (some .int), 8),
  (yX8_seed, cX8_seed, 2, (some .int), 8),
  (yX8_looks, cX8_looks, 2, (some .int), 8),
  (yX8_eyes, cX8_eyes, 2, (some .int), 8),
  (yX8_sees, cX8_sees, 4, (some .int), 8),
  (yX8_allLook, cX8_allLook, 3, none, 8),
  (yX8_goesOn, cX8_goesOn, 4, none, 8),
  (yX8_goesOnMany, cX8_goesOnMany, 3, none, 8),
  (yX8_days, cX8_days, 4, (some .int), 8),
  (yX8_sizes, cX8_sizes, 3, (some .int), 8),
  (yX8_town, cX8_town, 2, (some .int), 8),
  (yX8_laysBy, cX8_laysBy, 2, none, 8),
  (yX8_laysBack, cX8_laysBack, 2, none, 8),
  (yX8_curtain, cX8_curtain, 8, (some .int), 8),
  (yX8_seat, cX8_seat, 8, (some .int), 8),
  (yX8_behind, cX8_behind, 4, (some .int), 8),
  (yX8_vanishes, cX8_vanishes, 3, (some .int), 8),
  (yX8_bumps, cX8_bumps, 3, (some .int), 8),
  (yX8_isAsked, cX8_isAsked, 2, (some .boolean), 8),
  (yX8_tallest, cX8_tallest, 11, (some .int), 8),
  (yX8_loud, cX8_loud, 4, (some .int), 8),
  (yX8_lovedMost, cX8_lovedMost, 8, (some .int), 8),
  (yX8_loved, cX8_loved, 4, (some .int), 8),
  (yX8_becomes, cX8_becomes, 4, (some .int), 8),
  (yX8_fee, cX8_fee, 2, (some .int), 8),
  (yX8_fine, cX8_fine, 3, (some .int), 8),
  (yX8_feed, cX8_feed, 6, (some .int), 8),
  (yX8_trim, cX8_trim, 2, (some .int), 8),
  (yX8_isLetter, cX8_isLetter, 2, (some .boolean), 8),
  (yX8_isDigit, cX8_isDigit, 2, (some .boolean), 8),
  (yX8_nextToken, cX8_nextToken, 3, none, 8),
  (yX8_isSign, cX8_isSign, 2, (some .boolean), 8),
  (yX8_isWordAt, cX8_isWordAt, 6, (some .boolean), 8),
  (yX8_key, cX8_key, 1, (some .int), 8),
  (yX8_isName, cX8_isName, 2, (some .boolean), 8),
  (yX8_step, cX8_step, 3, none, 8),
  (yX8_either, cX8_either, 2, (some .boolean), 8),
  (yX8_both, cX8_both, 2, (some .boolean), 8),
  (yX8_test, cX8_test, 3, (some .boolean), 8),
  (yX8_sum, cX8_sum, 3, (some .boolean), 8),
  (yX8_term, cX8_term, 3, (some .boolean), 8),
  (yX8_part0, cX8_part0, 2, (some .boolean), 8),
  (yX8_parse, cX8_parse, 3, (some .int), 8),
  (yX8_text, cX8_text, 3, (some .int), 8),
  (yX8_textTold, cX8_textTold, 3, (some .int), 8),
  (yX8_counts, cX8_counts, 4, (some .int), 8),
  (yX8_why, cX8_why, 2, (some .int), 8),
  (yX8_joined, cX8_joined, 3, (some .int), 8),
  (yX8_worked, cX8_worked, 6, (some .int), 8),
  (yX8_isSheet, cX8_isSheet, 1, (some .boolean), 8),
  (yX8_sheet, cX8_sheet, 5, (some .int), 8),
  (yX8_mark, cX8_mark, 4, (some .int), 8),
  (yX8_pour, cX8_pour, 6, (some .int), 8),
  (yX8_reads, cX8_reads, 4, (some .int), 8),
  (yX8_offBy, cX8_offBy, 6, (some .int), 8),
  (yX8_like, cX8_like, 7, (some .int), 8),
  (yX8_copy, cX8_copy, 7, (some .int), 8),
  (yX8_isSlot, cX8_isSlot, 1, (some .boolean), 8),
  (yX8_lay, cX8_lay, 7, (some .int), 8),
  (yX8_ask, cX8_ask, 3, (some .int), 8),
  (yX8_item, cX8_item, 4, (some .int), 8),
  (yX8_rest, cX8_rest, 3, (some .int), 8),
  (yX8_tell, cX8_tell, 2, (some .int), 8),
  (yX8_setAside, cX8_setAside, 4, none, 8),
  (yX8_check, cX8_check, 5, (some .int), 8),
  (yX8_keep, cX8_keep, 1, (some .int), 8),
  (yX8_back, cX8_back, 1, (some .int), 8),
  (yX8_count, cX8_count, 2, (some .int), 8),
  (yJ6_bitCount_0f7a4, cJ6_bitCount_0f7a4, 1, (some .int), 12),
  (yJ0_length_8abf5, cJ0_length_8abf5, 1, (some .int), 9),
  (yJ0_charAt_5068e, cJ0_charAt_5068e, 2, (some .char), 9),
  (yJ0_indexOf_0f7a4, cJ0_indexOf_0f7a4, 2, (some .int), 9),
  (yJ0_indexOf_7cf53, cJ0_indexOf_7cf53, 3, (some .int), 9),
  (yJ0_coder_7d493, cJ0_coder_7d493, 1, (some .byte), 9),
  (yJ0_isLatin1_aae02, cJ0_isLatin1_aae02, 1, (some .boolean), 9),
  (yJ0_checkIndex_df160, cJ0_checkIndex_df160, 2, none, 9),
  (yJ1_charAt_3b067, cJ1_charAt_3b067, 2, (some .char), 10),
  (yJ1_canEncode_9a6ad, cJ1_canEncode_9a6ad, 1, (some .boolean), 10),
  (yJ1_indexOf_4cfef, cJ1_indexOf_4cfef, 4, (some .int), 10),
  (yJ1_indexOfChar_4cfef, cJ1_indexOfChar_4cfef, 6, (some .int), 10),
  (yJ3_checkIndex_8e157, cJ3_checkIndex_8e157, 3, (some .int), 11),
  (yL_law, cL_law, 4, (some .boolean), 14)]
theorem mt_0 : mtb[0]? = some (yX0_isUnder, cX0_isUnder, 4, (some .boolean), 0) := rfl
theorem mt_1 : mtb[1]? = some (yX0_growth, cX0_growth, 3, (some .int), 0) := rfl
theorem mt_2 : mtb[2]? = some (yX0_pull, cX0_pull, 2, (some .int), 0) := rfl
theorem mt_3 : mtb[3]? = some (yX0_worth, cX0_worth, 2, (some .int), 0) := rfl
theorem mt_4 : mtb[4]? = some (yX1_init, cX1_init, 2, none, 1) := rfl
theorem mt_5 : mtb[5]? = some (yX1_value, cX1_value, 9, (some .int), 1) := rfl
theorem mt_6 : mtb[6]? = some (yX1_joined, cX1_joined, 3, (some .int), 1) := rfl
theorem mt_7 : mtb[7]? = some (yX2_init, cX2_init, 1, none, 2) := rfl
theorem mt_8 : mtb[8]? = some (yX2_takes, cX2_takes, 3, none, 2) := rfl
theorem mt_9 : mtb[9]? = some (yX2_parse, cX2_parse, 3, (some .int), 2) := rfl
theorem mt_10 : mtb[10]? = some (yX2_next, cX2_next, 4, none, 2) := rfl
theorem mt_11 : mtb[11]? = some (yX2_sortAt, cX2_sortAt, 3, (some .int), 2) := rfl
theorem mt_12 : mtb[12]? = some (yX2_isWord, cX2_isWord, 4, (some .boolean), 2) := rfl
theorem mt_13 : mtb[13]? = some (yX2_isSign, cX2_isSign, 2, (some .boolean), 2) := rfl
theorem mt_14 : mtb[14]? = some (yX2_fails, cX2_fails, 1, none, 2) := rfl
theorem mt_15 : mtb[15]? = some (yX2_signsOf, cX2_signsOf, 1, (some (.object "java/lang/String")), 2) := rfl
theorem mt_16 : mtb[16]? = some (yX2_isSignOf, cX2_isSignOf, 2, (some .boolean), 2) := rfl
theorem mt_17 : mtb[17]? = some (yX2_level, cX2_level, 6, none, 2) := rfl
theorem mt_18 : mtb[18]? = some (yX2_piece, cX2_piece, 2, none, 2) := rfl
theorem mt_19 : mtb[19]? = some (yX2_leaf, cX2_leaf, 3, none, 2) := rfl
theorem mt_20 : mtb[20]? = some (yX2_number, cX2_number, 3, (some .int), 2) := rfl
theorem mt_21 : mtb[21]? = some (yX2_nameOf, cX2_nameOf, 3, (some .int), 2) := rfl
theorem mt_22 : mtb[22]? = some (yX3_init, cX3_init, 1, none, 3) := rfl
theorem mt_23 : mtb[23]? = some (yX3_clears, cX3_clears, 4, none, 3) := rfl
theorem mt_24 : mtb[24]? = some (yX3_takesAfter, cX3_takesAfter, 2, none, 3) := rfl
theorem mt_25 : mtb[25]? = some (yX3_hasPart, cX3_hasPart, 3, (some .boolean), 3) := rfl
theorem mt_26 : mtb[26]? = some (yX4_init, cX4_init, 1, none, 4) := rfl
theorem mt_27 : mtb[27]? = some (yX5_init, cX5_init, 1, none, 5) := rfl
theorem mt_28 : mtb[28]? = some (yX5_adds, cX5_adds, 2, none, 5) := rfl
theorem mt_29 : mtb[29]? = some (yX6_init, cX6_init, 3, none, 6) := rfl
theorem mt_30 : mtb[30]? = some (yX6_takesAfter, cX6_takesAfter, 2, none, 6) := rfl
theorem mt_31 : mtb[31]? = some (yX6_has, cX6_has, 2, (some .boolean), 6) := rfl
theorem mt_32 : mtb[32]? = some (yX6_isFree, cX6_isFree, 2, (some .boolean), 6) := rfl
theorem mt_33 : mtb[33]? = some (yX6_comes, cX6_comes, 7, (some .int), 6) := rfl
theorem mt_34 : mtb[34]? = some (yX6_settle, cX6_settle, 3, none, 6) := rfl
theorem mt_35 : mtb[35]? = some (yX6_supposes, cX6_supposes, 4, none, 6) := rfl
theorem mt_36 : mtb[36]? = some (yX6_sizesTogether, cX6_sizesTogether, 3, (some .int), 6) := rfl
theorem mt_37 : mtb[37]? = some (yX6_draw, cX6_draw, 1, (some .int), 6) := rfl
theorem mt_38 : mtb[38]? = some (yX6_drawsOne, cX6_drawsOne, 6, (some .boolean), 6) := rfl
theorem mt_39 : mtb[39]? = some (yX6_freeFrom, cX6_freeFrom, 4, (some .int), 6) := rfl
theorem mt_40 : mtb[40]? = some (yX6_seenBy, cX6_seenBy, 4, (some .int), 6) := rfl
theorem mt_41 : mtb[41]? = some (yX6_seenAlong, cX6_seenAlong, 9, (some .int), 6) := rfl
theorem mt_42 : mtb[42]? = some (yX6_lookOf, cX6_lookOf, 7, (some .int), 6) := rfl
theorem mt_43 : mtb[43]? = some (yX6_pullOn, cX6_pullOn, 8, (some .int), 6) := rfl
theorem mt_44 : mtb[44]? = some (yX6_lookAll, cX6_lookAll, 3, none, 6) := rfl
theorem mt_45 : mtb[45]? = some (yX6_eyesOn, cX6_eyesOn, 2, (some .int), 6) := rfl
theorem mt_46 : mtb[46]? = some (yX6_live, cX6_live, 3, none, 6) := rfl
theorem mt_47 : mtb[47]? = some (yX6_growAll, cX6_growAll, 5, none, 6) := rfl
theorem mt_48 : mtb[48]? = some (yX6_wander, cX6_wander, 4, none, 6) := rfl
theorem mt_49 : mtb[49]? = some (yX6_clamour, cX6_clamour, 3, none, 6) := rfl
theorem mt_50 : mtb[50]? = some (yX7_init, cX7_init, 2, none, 7) := rfl
theorem mt_51 : mtb[51]? = some (yX7_one, cX7_one, 7, (some .int), 7) := rfl
theorem mt_52 : mtb[52]? = some (yX7_told, cX7_told, 3, (some .int), 7) := rfl
theorem mt_53 : mtb[53]? = some (yX7_as, cX7_as, 3, (some .int), 7) := rfl
theorem mt_54 : mtb[54]? = some (yX7_turns, cX7_turns, 4, (some .int), 7) := rfl
theorem mt_55 : mtb[55]? = some (yX7_set, cX7_set, 6, (some .int), 7) := rfl
theorem mt_56 : mtb[56]? = some (yX7_moves, cX7_moves, 4, (some .int), 7) := rfl
theorem mt_57 : mtb[57]? = some (yX7_screen, cX7_screen, 4, (some .int), 7) := rfl
theorem mt_58 : mtb[58]? = some (yX7_at, cX7_at, 2, (some .int), 7) := rfl
theorem mt_59 : mtb[59]? = some (yX7_rule, cX7_rule, 4, (some .int), 7) := rfl
theorem mt_60 : mtb[60]? = some (yX7_deal, cX7_deal, 4, (some .int), 7) := rfl
theorem mt_61 : mtb[61]? = some (yX7_seed, cX7_seed, 3, (some .int), 7) := rfl
theorem mt_62 : mtb[62]? = some (yX7_looks, cX7_looks, 3, (some .int), 7) := rfl
theorem mt_63 : mtb[63]? = some (yX7_eyes, cX7_eyes, 2, (some .int), 7) := rfl
theorem mt_64 : mtb[64]? = some (yX7_sees, cX7_sees, 2, (some .int), 7) := rfl
theorem mt_65 : mtb[65]? = some (yX7_days, cX7_days, 3, (some .int), 7) := rfl
theorem mt_66 : mtb[66]? = some (yX7_town, cX7_town, 2, (some .int), 7) := rfl
theorem mt_67 : mtb[67]? = some (yX7_curtain, cX7_curtain, 7, (some .int), 7) := rfl
theorem mt_68 : mtb[68]? = some (yX7_seat, cX7_seat, 7, (some .int), 7) := rfl
theorem mt_69 : mtb[69]? = some (yX7_behind, cX7_behind, 3, (some .int), 7) := rfl
theorem mt_70 : mtb[70]? = some (yX7_vanishes, cX7_vanishes, 2, (some .int), 7) := rfl
theorem mt_71 : mtb[71]? = some (yX7_bumps, cX7_bumps, 2, (some .int), 7) := rfl
theorem mt_72 : mtb[72]? = some (yX7_loud, cX7_loud, 4, (some .int), 7) := rfl
theorem mt_73 : mtb[73]? = some (yX7_loved, cX7_loved, 4, (some .int), 7) := rfl
theorem mt_74 : mtb[74]? = some (yX7_becomes, cX7_becomes, 4, (some .int), 7) := rfl
theorem mt_75 : mtb[75]? = some (yX7_like, cX7_like, 5, (some .int), 7) := rfl
theorem mt_76 : mtb[76]? = some (yX7_fee, cX7_fee, 2, (some .int), 7) := rfl
theorem mt_77 : mtb[77]? = some (yX7_fine, cX7_fine, 3, (some .int), 7) := rfl
theorem mt_78 : mtb[78]? = some (yX7_feed, cX7_feed, 4, (some .int), 7) := rfl
theorem mt_79 : mtb[79]? = some (yX7_trim, cX7_trim, 2, (some .int), 7) := rfl
theorem mt_80 : mtb[80]? = some (yX7_text, cX7_text, 4, (some .int), 7) := rfl
theorem mt_81 : mtb[81]? = some (yX7_textTold, cX7_textTold, 3, (some .int), 7) := rfl
theorem mt_82 : mtb[82]? = some (yX7_why, cX7_why, 2, (some .int), 7) := rfl
theorem mt_83 : mtb[83]? = some (yX7_sheet, cX7_sheet, 5, (some .int), 7) := rfl
theorem mt_84 : mtb[84]? = some (yX7_mark, cX7_mark, 6, (some .int), 7) := rfl
theorem mt_85 : mtb[85]? = some (yX7_pour, cX7_pour, 7, (some .int), 7) := rfl
theorem mt_86 : mtb[86]? = some (yX7_reads, cX7_reads, 6, (some .int), 7) := rfl
theorem mt_87 : mtb[87]? = some (yX7_copy, cX7_copy, 8, (some .int), 7) := rfl
theorem mt_88 : mtb[88]? = some (yX7_lay, cX7_lay, 6, (some .int), 7) := rfl
theorem mt_89 : mtb[89]? = some (yX7_ask, cX7_ask, 5, (some .int), 7) := rfl
theorem mt_90 : mtb[90]? = some (yX7_item, cX7_item, 5, (some .int), 7) := rfl
theorem mt_91 : mtb[91]? = some (yX7_rest, cX7_rest, 4, (some .int), 7) := rfl
theorem mt_92 : mtb[92]? = some (yX7_tell, cX7_tell, 2, (some .int), 7) := rfl
theorem mt_93 : mtb[93]? = some (yX7_check, cX7_check, 6, (some .int), 7) := rfl
theorem mt_94 : mtb[94]? = some (yX7_keep, cX7_keep, 1, (some .int), 7) := rfl
theorem mt_95 : mtb[95]? = some (yX7_back, cX7_back, 1, (some .int), 7) := rfl
theorem mt_96 : mtb[96]? = some (yX7_count, cX7_count, 2, (some .int), 7) := rfl
theorem mt_97 : mtb[97]? = some (yX7_isWithin, cX7_isWithin, 3, (some .boolean), 7) := rfl
theorem mt_98 : mtb[98]? = some (yX7_held, cX7_held, 3, (some .int), 7) := rfl
theorem mt_99 : mtb[99]? = some (yX7_isValue, cX7_isValue, 2, (some .boolean), 7) := rfl
theorem mt_100 : mtb[100]? = some (yX7_isSupposable, cX7_isSupposable, 4, (some .boolean), 7) := rfl
theorem mt_101 : mtb[101]? = some (yX7_firstDay, cX7_firstDay, 5, (some .int), 7) := rfl
theorem mt_102 : mtb[102]? = some (yX7_tallest, cX7_tallest, 10, (some .int), 7) := rfl
theorem mt_103 : mtb[103]? = some (yX7_addDifferences, cX7_addDifferences, 4, none, 7) := rfl
theorem mt_104 : mtb[104]? = some (yX7_sheetFinding, cX7_sheetFinding, 2, (some .int), 7) := rfl
theorem mt_105 : mtb[105]? = some (yX7_slotFinding, cX7_slotFinding, 3, (some .int), 7) := rfl
theorem mt_106 : mtb[106]? = some (yX8_init, cX8_init, 2, none, 8) := rfl
theorem mt_107 : mtb[107]? = some (yX8_isIn, cX8_isIn, 6, (some .boolean), 8) := rfl
theorem mt_108 : mtb[108]? = some (yX8_orNone, cX8_orNone, 1, (some .int), 8) := rfl
theorem mt_109 : mtb[109]? = some (yX8_within, cX8_within, 2, (some .int), 8) := rfl
theorem mt_110 : mtb[110]? = some (yX8_off, cX8_off, 2, (some .int), 8) := rfl
theorem mt_111 : mtb[111]? = some (yX8_changes, cX8_changes, 4, (some .int), 8) := rfl
theorem mt_112 : mtb[112]? = some (yX8_textAt, cX8_textAt, 2, (some .int), 8) := rfl
theorem mt_113 : mtb[113]? = some (yX8_of, cX8_of, 3, (some .int), 8) := rfl
theorem mt_114 : mtb[114]? = some (yX8_sets, cX8_sets, 4, none, 8) := rfl
theorem mt_115 : mtb[115]? = some (yX8_isOne, cX8_isOne, 2, (some .boolean), 8) := rfl
theorem mt_116 : mtb[116]? = some (yX8_isText, cX8_isText, 2, (some .boolean), 8) := rfl
theorem mt_117 : mtb[117]? = some (yX8_drawn, cX8_drawn, 1, (some .int), 8) := rfl
theorem mt_118 : mtb[118]? = some (yX8_isOf, cX8_isOf, 2, (some .boolean), 8) := rfl
theorem mt_119 : mtb[119]? = some (yX8_isPlace, cX8_isPlace, 1, (some .boolean), 8) := rfl
theorem mt_120 : mtb[120]? = some (yX8_isScreen, cX8_isScreen, 2, (some .boolean), 8) := rfl
theorem mt_121 : mtb[121]? = some (yX8_whose, cX8_whose, 3, (some .int), 8) := rfl
theorem mt_122 : mtb[122]? = some (yX8_isFree, cX8_isFree, 2, (some .boolean), 8) := rfl
theorem mt_123 : mtb[123]? = some (yX8_comes, cX8_comes, 7, none, 8) := rfl
theorem mt_124 : mtb[124]? = some (yX8_isOneSo, cX8_isOneSo, 3, (some .boolean), 8) := rfl
theorem mt_125 : mtb[125]? = some (yX8_one, cX8_one, 6, (some .int), 8) := rfl
theorem mt_126 : mtb[126]? = some (yX8_grows, cX8_grows, 4, (some .int), 8) := rfl
theorem mt_127 : mtb[127]? = some (yX8_worth, cX8_worth, 3, (some .int), 8) := rfl
theorem mt_128 : mtb[128]? = some (yX8_isClear, cX8_isClear, 10, (some .boolean), 8) := rfl
theorem mt_129 : mtb[129]? = some (yX8_doesSee, cX8_doesSee, 5, (some .boolean), 8) := rfl
theorem mt_130 : mtb[130]? = some (yX8_pulls, cX8_pulls, 5, (some .int), 8) := rfl
theorem mt_131 : mtb[131]? = some (yX8_looksAt, cX8_looksAt, 8, (some .int), 8) := rfl
theorem mt_132 : mtb[132]? = some (yX8_eyesOf, cX8_eyesOf, 4, (some .int), 8) := rfl
theorem mt_133 : mtb[133]? = some (yX8_many, cX8_many, 3, (some .int), 8) := rfl
theorem mt_134 : mtb[134]? = some (yX8_told, cX8_told, 3, (some .int), 8) := rfl
theorem mt_135 : mtb[135]? = some (yX8_as, cX8_as, 3, (some .int), 8) := rfl
theorem mt_136 : mtb[136]? = some (yX8_turns, cX8_turns, 3, (some .int), 8) := rfl
theorem mt_137 : mtb[137]? = some (yX8_set, cX8_set, 5, (some .int), 8) := rfl
theorem mt_138 : mtb[138]? = some (yX8_moves, cX8_moves, 3, (some .int), 8) := rfl
theorem mt_139 : mtb[139]? = some (yX8_screen, cX8_screen, 4, (some .int), 8) := rfl
theorem mt_140 : mtb[140]? = some (yX8_at, cX8_at, 2, (some .int), 8) := rfl
theorem mt_141 : mtb[141]? = some (yX8_rule, cX8_rule, 3, (some .int), 8) := rfl
theorem mt_142 : mtb[142]? = some (yX8_deal, cX8_deal, 10, (some .int), 8) := rfl
theorem mt_143 : mtb[143]? = some (yX8_seed, cX8_seed, 2, (some .int), 8) := rfl
theorem mt_144 : mtb[144]? = some (yX8_looks, cX8_looks, 2, (some .int), 8) := rfl
theorem mt_145 : mtb[145]? = some (yX8_eyes, cX8_eyes, 2, (some .int), 8) := rfl
theorem mt_146 : mtb[146]? = some (yX8_sees, cX8_sees, 4, (some .int), 8) := rfl
theorem mt_147 : mtb[147]? = some (yX8_allLook, cX8_allLook, 3, none, 8) := rfl
theorem mt_148 : mtb[148]? = some (yX8_goesOn, cX8_goesOn, 4, none, 8) := rfl
theorem mt_149 : mtb[149]? = some (yX8_goesOnMany, cX8_goesOnMany, 3, none, 8) := rfl
theorem mt_150 : mtb[150]? = some (yX8_days, cX8_days, 4, (some .int), 8) := rfl
theorem mt_151 : mtb[151]? = some (yX8_sizes, cX8_sizes, 3, (some .int), 8) := rfl
theorem mt_152 : mtb[152]? = some (yX8_town, cX8_town, 2, (some .int), 8) := rfl
theorem mt_153 : mtb[153]? = some (yX8_laysBy, cX8_laysBy, 2, none, 8) := rfl
theorem mt_154 : mtb[154]? = some (yX8_laysBack, cX8_laysBack, 2, none, 8) := rfl
theorem mt_155 : mtb[155]? = some (yX8_curtain, cX8_curtain, 8, (some .int), 8) := rfl
theorem mt_156 : mtb[156]? = some (yX8_seat, cX8_seat, 8, (some .int), 8) := rfl
theorem mt_157 : mtb[157]? = some (yX8_behind, cX8_behind, 4, (some .int), 8) := rfl
theorem mt_158 : mtb[158]? = some (yX8_vanishes, cX8_vanishes, 3, (some .int), 8) := rfl
theorem mt_159 : mtb[159]? = some (yX8_bumps, cX8_bumps, 3, (some .int), 8) := rfl
theorem mt_160 : mtb[160]? = some (yX8_isAsked, cX8_isAsked, 2, (some .boolean), 8) := rfl
theorem mt_161 : mtb[161]? = some (yX8_tallest, cX8_tallest, 11, (some .int), 8) := rfl
theorem mt_162 : mtb[162]? = some (yX8_loud, cX8_loud, 4, (some .int), 8) := rfl
theorem mt_163 : mtb[163]? = some (yX8_lovedMost, cX8_lovedMost, 8, (some .int), 8) := rfl
theorem mt_164 : mtb[164]? = some (yX8_loved, cX8_loved, 4, (some .int), 8) := rfl
theorem mt_165 : mtb[165]? = some (yX8_becomes, cX8_becomes, 4, (some .int), 8) := rfl
theorem mt_166 : mtb[166]? = some (yX8_fee, cX8_fee, 2, (some .int), 8) := rfl
theorem mt_167 : mtb[167]? = some (yX8_fine, cX8_fine, 3, (some .int), 8) := rfl
theorem mt_168 : mtb[168]? = some (yX8_feed, cX8_feed, 6, (some .int), 8) := rfl
theorem mt_169 : mtb[169]? = some (yX8_trim, cX8_trim, 2, (some .int), 8) := rfl
theorem mt_170 : mtb[170]? = some (yX8_isLetter, cX8_isLetter, 2, (some .boolean), 8) := rfl
theorem mt_171 : mtb[171]? = some (yX8_isDigit, cX8_isDigit, 2, (some .boolean), 8) := rfl
theorem mt_172 : mtb[172]? = some (yX8_nextToken, cX8_nextToken, 3, none, 8) := rfl
theorem mt_173 : mtb[173]? = some (yX8_isSign, cX8_isSign, 2, (some .boolean), 8) := rfl
theorem mt_174 : mtb[174]? = some (yX8_isWordAt, cX8_isWordAt, 6, (some .boolean), 8) := rfl
theorem mt_175 : mtb[175]? = some (yX8_key, cX8_key, 1, (some .int), 8) := rfl
theorem mt_176 : mtb[176]? = some (yX8_isName, cX8_isName, 2, (some .boolean), 8) := rfl
theorem mt_177 : mtb[177]? = some (yX8_step, cX8_step, 3, none, 8) := rfl
theorem mt_178 : mtb[178]? = some (yX8_either, cX8_either, 2, (some .boolean), 8) := rfl
theorem mt_179 : mtb[179]? = some (yX8_both, cX8_both, 2, (some .boolean), 8) := rfl
theorem mt_180 : mtb[180]? = some (yX8_test, cX8_test, 3, (some .boolean), 8) := rfl
theorem mt_181 : mtb[181]? = some (yX8_sum, cX8_sum, 3, (some .boolean), 8) := rfl
theorem mt_182 : mtb[182]? = some (yX8_term, cX8_term, 3, (some .boolean), 8) := rfl
theorem mt_183 : mtb[183]? = some (yX8_part0, cX8_part0, 2, (some .boolean), 8) := rfl
theorem mt_184 : mtb[184]? = some (yX8_parse, cX8_parse, 3, (some .int), 8) := rfl
theorem mt_185 : mtb[185]? = some (yX8_text, cX8_text, 3, (some .int), 8) := rfl
theorem mt_186 : mtb[186]? = some (yX8_textTold, cX8_textTold, 3, (some .int), 8) := rfl
theorem mt_187 : mtb[187]? = some (yX8_counts, cX8_counts, 4, (some .int), 8) := rfl
theorem mt_188 : mtb[188]? = some (yX8_why, cX8_why, 2, (some .int), 8) := rfl
theorem mt_189 : mtb[189]? = some (yX8_joined, cX8_joined, 3, (some .int), 8) := rfl
theorem mt_190 : mtb[190]? = some (yX8_worked, cX8_worked, 6, (some .int), 8) := rfl
theorem mt_191 : mtb[191]? = some (yX8_isSheet, cX8_isSheet, 1, (some .boolean), 8) := rfl
theorem mt_192 : mtb[192]? = some (yX8_sheet, cX8_sheet, 5, (some .int), 8) := rfl
theorem mt_193 : mtb[193]? = some (yX8_mark, cX8_mark, 4, (some .int), 8) := rfl
theorem mt_194 : mtb[194]? = some (yX8_pour, cX8_pour, 6, (some .int), 8) := rfl
theorem mt_195 : mtb[195]? = some (yX8_reads, cX8_reads, 4, (some .int), 8) := rfl
theorem mt_196 : mtb[196]? = some (yX8_offBy, cX8_offBy, 6, (some .int), 8) := rfl
theorem mt_197 : mtb[197]? = some (yX8_like, cX8_like, 7, (some .int), 8) := rfl
theorem mt_198 : mtb[198]? = some (yX8_copy, cX8_copy, 7, (some .int), 8) := rfl
theorem mt_199 : mtb[199]? = some (yX8_isSlot, cX8_isSlot, 1, (some .boolean), 8) := rfl
theorem mt_200 : mtb[200]? = some (yX8_lay, cX8_lay, 7, (some .int), 8) := rfl
theorem mt_201 : mtb[201]? = some (yX8_ask, cX8_ask, 3, (some .int), 8) := rfl
theorem mt_202 : mtb[202]? = some (yX8_item, cX8_item, 4, (some .int), 8) := rfl
theorem mt_203 : mtb[203]? = some (yX8_rest, cX8_rest, 3, (some .int), 8) := rfl
theorem mt_204 : mtb[204]? = some (yX8_tell, cX8_tell, 2, (some .int), 8) := rfl
theorem mt_205 : mtb[205]? = some (yX8_setAside, cX8_setAside, 4, none, 8) := rfl
theorem mt_206 : mtb[206]? = some (yX8_check, cX8_check, 5, (some .int), 8) := rfl
theorem mt_207 : mtb[207]? = some (yX8_keep, cX8_keep, 1, (some .int), 8) := rfl
theorem mt_208 : mtb[208]? = some (yX8_back, cX8_back, 1, (some .int), 8) := rfl
theorem mt_209 : mtb[209]? = some (yX8_count, cX8_count, 2, (some .int), 8) := rfl
theorem mt_210 : mtb[210]? = some (yJ6_bitCount_0f7a4, cJ6_bitCount_0f7a4, 1, (some .int), 12) := rfl
theorem mt_211 : mtb[211]? = some (yJ0_length_8abf5, cJ0_length_8abf5, 1, (some .int), 9) := rfl
theorem mt_212 : mtb[212]? = some (yJ0_charAt_5068e, cJ0_charAt_5068e, 2, (some .char), 9) := rfl
theorem mt_213 : mtb[213]? = some (yJ0_indexOf_0f7a4, cJ0_indexOf_0f7a4, 2, (some .int), 9) := rfl
theorem mt_214 : mtb[214]? = some (yJ0_indexOf_7cf53, cJ0_indexOf_7cf53, 3, (some .int), 9) := rfl
theorem mt_215 : mtb[215]? = some (yJ0_coder_7d493, cJ0_coder_7d493, 1, (some .byte), 9) := rfl
theorem mt_216 : mtb[216]? = some (yJ0_isLatin1_aae02, cJ0_isLatin1_aae02, 1, (some .boolean), 9) := rfl
theorem mt_217 : mtb[217]? = some (yJ0_checkIndex_df160, cJ0_checkIndex_df160, 2, none, 9) := rfl
theorem mt_218 : mtb[218]? = some (yJ1_charAt_3b067, cJ1_charAt_3b067, 2, (some .char), 10) := rfl
theorem mt_219 : mtb[219]? = some (yJ1_canEncode_9a6ad, cJ1_canEncode_9a6ad, 1, (some .boolean), 10) := rfl
theorem mt_220 : mtb[220]? = some (yJ1_indexOf_4cfef, cJ1_indexOf_4cfef, 4, (some .int), 10) := rfl
theorem mt_221 : mtb[221]? = some (yJ1_indexOfChar_4cfef, cJ1_indexOfChar_4cfef, 6, (some .int), 10) := rfl
theorem mt_222 : mtb[222]? = some (yJ3_checkIndex_8e157, cJ3_checkIndex_8e157, 3, (some .int), 11) := rfl
theorem mt_223 : mtb[223]? = some (yL_law, cL_law, 4, (some .boolean), 14) := rfl
def ownL : List String := [RX0, RX1, RX2, RX3, RX4, RX5, RX6, RX7, RX8, RJ0, RJ1, RJ3, RJ6, RJ9, RL]
def ownN (k : Nat) : String := ownL.getD k ""
def fldT : List (Nat × Nat × Nat × Nat × Nat) := [(1, 11, 0, 0, 112), (1, 17, 0, 1, 114), (1, 22, 4, 1, 94), (1, 26, 4, 0, 92), (2, 9, 1, 0, 126), (2, 15, 1, 1, 127), (2, 19, 1, 2, 129), (2, 22, 1, 3, 130), (2, 25, 1, 4, 131), (2, 28, 1, 5, 132), (2, 31, 1, 6, 133), (2, 34, 1, 7, 134), (2, 37, 4, 1, 95), (2, 42, 4, 3, 100), (2, 61, 4, 2, 97), (3, 9, 2, 0, 240), (3, 15, 2, 1, 242), (3, 19, 2, 2, 244), (4, 10, 3, 0, 260), (4, 16, 3, 1, 262), (4, 20, 3, 2, 264), (4, 23, 3, 3, 266), (4, 26, 3, 4, 268), (5, 9, 4, 0, 91), (5, 15, 4, 1, 93), (5, 19, 4, 2, 96), (5, 22, 4, 3, 99), (6, 9, 5, 1, 160), (6, 15, 5, 2, 162), (6, 18, 5, 3, 164), (6, 21, 5, 4, 166), (6, 24, 5, 5, 168), (6, 27, 5, 6, 170), (6, 30, 5, 7, 172), (6, 33, 5, 8, 174), (6, 36, 5, 9, 176), (6, 39, 5, 10, 178), (6, 43, 5, 11, 180), (6, 46, 5, 12, 182), (6, 49, 5, 13, 184), (6, 52, 5, 14, 186), (6, 55, 5, 15, 188), (6, 58, 5, 16, 190), (6, 61, 5, 17, 192), (6, 64, 5, 0, 159), (7, 10, 6, 0, 281), (7, 19, 6, 1, 282), (7, 28, 6, 2, 283), (7, 32, 6, 3, 284), (7, 35, 6, 4, 285), (7, 40, 6, 5, 286), (7, 46, 6, 6, 287), (7, 50, 6, 7, 288), (7, 54, 6, 8, 289), (7, 57, 6, 9, 290), (7, 61, 6, 10, 291), (7, 81, 5, 10, 179), (7, 92, 5, 1, 161), (7, 95, 5, 2, 163), (7, 98, 5, 3, 165), (7, 101, 5, 4, 167), (7, 104, 5, 5, 169), (7, 128, 5, 7, 173), (7, 131, 5, 11, 181), (7, 135, 5, 8, 175), (7, 147, 5, 16, 191), (7, 156, 5, 6, 171), (7, 162, 5, 12, 183), (7, 165, 5, 15, 189), (7, 172, 5, 13, 185), (7, 175, 5, 14, 187), (7, 197, 2, 1, 243), (7, 205, 5, 9, 177), (7, 211, 1, 1, 128), (7, 217, 5, 17, 193), (7, 220, 0, 0, 113), (7, 227, 4, 2, 98), (7, 232, 4, 3, 101), (7, 242, 2, 2, 245), (7, 246, 2, 0, 241), (7, 263, 3, 1, 263), (7, 266, 3, 2, 265), (7, 269, 3, 3, 267), (7, 272, 3, 0, 261), (7, 278, 3, 4, 269), (8, 7, 7, 0, 868), (8, 13, 7, 1, 869), (8, 16, 7, 2, 870), (8, 19, 7, 4, 872), (8, 22, 7, 5, 873), (8, 25, 7, 6, 874), (8, 28, 7, 7, 875), (8, 31, 7, 8, 876), (8, 34, 7, 9, 877), (8, 37, 7, 10, 878), (8, 40, 7, 11, 879), (8, 43, 7, 12, 880), (8, 46, 7, 13, 881), (8, 49, 7, 14, 882), (8, 52, 7, 26, 894), (8, 55, 7, 27, 895), (8, 58, 7, 28, 896), (8, 61, 7, 29, 897), (8, 64, 7, 31, 899), (8, 214, 7, 15, 883), (8, 226, 7, 17, 885), (8, 229, 7, 18, 886), (8, 232, 7, 16, 884), (8, 238, 7, 20, 888), (8, 244, 7, 19, 887), (8, 251, 7, 24, 892), (8, 254, 7, 23, 891), (8, 282, 7, 25, 893), (8, 288, 7, 22, 890), (8, 291, 7, 21, 889), (8, 330, 7, 30, 898), (8, 335, 7, 3, 871)]
def mthT : List (Nat × Nat × Nat × Nat × Nat × Nat × Nat × Nat × Nat × Nat) := [(1, 21, 27, 4, 0, 87, 88, 0, 55, 89), (1, 29, 6, 0, 3, 378, 379, 0, 54, 380), (2, 45, 10, 1, 0, 605, 606, 607, 56, 608), (2, 50, 12, 1, 1, 615, 616, 617, 56, 618), (2, 58, 14, 1, 0, 669, 670, 671, 56, 672), (2, 64, 17, 1, 2, 673, 675, 4, 56, 676), (2, 68, 11, 1, 1, 609, 610, 611, 56, 612), (2, 78, 211, 1, 0, 619, 620, 621, 65, 622), (2, 83, 212, 1, 1, 629, 630, 631, 65, 632), (2, 97, 15, 0, 1, 763, 764, 0, 56, 765), (2, 101, 213, 1, 1, 700, 701, 702, 65, 703), (2, 104, 18, 1, 1, 677, 679, 5, 56, 680), (2, 108, 16, 1, 1, 759, 760, 761, 56, 762), (2, 112, 28, 1, 1, 689, 690, 691, 55, 692), (2, 116, 20, 1, 0, 681, 682, 683, 56, 684), (2, 119, 19, 1, 2, 685, 686, 687, 56, 688), (2, 123, 21, 1, 1, 693, 694, 695, 56, 696), (2, 126, 13, 1, 1, 755, 756, 757, 56, 758), (4, 9, 22, 4, 0, 259, 237, 0, 58, 238), (6, 75, 37, 1, 0, 447, 448, 449, 57, 450), (6, 79, 39, 1, 1, 452, 453, 454, 57, 455), (6, 83, 33, 1, 5, 457, 333, 334, 57, 335), (6, 87, 32, 1, 1, 456, 327, 328, 57, 329), (6, 91, 41, 1, 3, 360, 361, 362, 57, 363), (6, 101, 40, 1, 1, 356, 357, 358, 57, 359), (6, 104, 43, 1, 2, 367, 368, 369, 57, 370), (6, 110, 5, 1, 4, 374, 375, 376, 54, 377), (6, 119, 2, 0, 2, 384, 385, 0, 62, 386), (6, 124, 42, 1, 1, 352, 353, 354, 57, 355), (6, 127, 44, 1, 0, 348, 349, 350, 57, 351), (6, 130, 210, 0, 1, 387, 388, 0, 63, 389), (6, 135, 47, 1, 0, 485, 486, 487, 57, 488), (6, 138, 48, 1, 0, 494, 495, 496, 57, 497), (6, 141, 49, 1, 0, 499, 500, 501, 57, 502), (6, 144, 1, 0, 2, 489, 394, 0, 62, 395), (6, 147, 98, 3, 3, 490, 491, 0, 53, 492), (6, 150, 34, 1, 2, 498, 422, 423, 57, 424), (7, 9, 4, 2, 0, 80, 81, 0, 54, 82), (7, 18, 7, 4, 0, 122, 123, 0, 56, 124), (7, 25, 29, 2, 1, 155, 156, 0, 57, 157), (7, 65, 22, 4, 0, 236, 237, 0, 58, 238), (7, 66, 26, 4, 0, 254, 255, 0, 59, 256), (7, 67, 97, 0, 3, 319, 320, 0, 53, 321), (7, 71, 99, 0, 2, 322, 323, 0, 53, 324), (7, 76, 32, 1, 1, 326, 327, 328, 57, 329), (7, 85, 33, 1, 5, 332, 333, 334, 57, 335), (7, 89, 31, 1, 1, 340, 341, 342, 57, 343), (7, 107, 45, 1, 1, 344, 345, 346, 57, 347), (7, 111, 1, 0, 2, 393, 394, 0, 62, 395), (7, 117, 3, 0, 2, 396, 397, 0, 62, 398), (7, 120, 0, 0, 2, 403, 404, 0, 62, 405), (7, 124, 34, 1, 2, 421, 422, 423, 57, 424), (7, 143, 38, 1, 0, 443, 444, 445, 57, 446), (7, 150, 42, 1, 1, 466, 353, 354, 57, 355), (7, 153, 44, 1, 0, 471, 349, 350, 57, 351), (7, 159, 40, 1, 1, 476, 357, 358, 57, 359), (7, 168, 46, 1, 1, 481, 482, 483, 57, 484), (7, 178, 36, 1, 0, 507, 508, 509, 57, 510), (7, 182, 30, 1, 1, 515, 516, 517, 57, 518), (7, 186, 101, 1, 3, 534, 536, 0, 53, 537), (7, 190, 100, 1, 3, 546, 548, 1, 53, 549), (7, 193, 102, 1, 4, 550, 552, 2, 53, 553), (7, 201, 103, 1, 1, 571, 573, 3, 53, 574), (7, 208, 5, 1, 4, 580, 375, 376, 54, 377), (7, 214, 8, 1, 1, 589, 590, 591, 56, 592), (7, 223, 9, 1, 1, 601, 602, 603, 56, 604), (7, 236, 23, 1, 2, 784, 785, 786, 58, 787), (7, 239, 104, 1, 1, 792, 794, 6, 53, 795), (7, 251, 98, 0, 3, 803, 491, 0, 53, 492), (7, 254, 25, 1, 2, 812, 813, 814, 58, 815), (7, 276, 24, 1, 1, 821, 822, 823, 58, 824), (7, 281, 105, 1, 2, 830, 832, 7, 53, 833), (7, 287, 35, 1, 3, 554, 555, 556, 57, 557), (8, 68, 107, 0, 3, 970, 971, 0, 60, 972), (8, 75, 113, 1, 2, 993, 995, 10, 60, 996), (8, 79, 121, 1, 1, 989, 991, 9, 60, 992), (8, 83, 120, 1, 1, 997, 999, 11, 60, 1000), (8, 87, 114, 1, 3, 1007, 1009, 13, 60, 1010), (8, 101, 119, 0, 1, 973, 974, 0, 60, 975), (8, 104, 124, 0, 3, 977, 978, 0, 60, 979), (8, 109, 122, 1, 1, 985, 987, 8, 60, 988), (8, 114, 123, 1, 5, 1003, 1005, 12, 60, 1006), (8, 118, 128, 1, 3, 1032, 1034, 18, 60, 1035), (8, 121, 187, 1, 1, 1043, 1045, 20, 60, 1046), (8, 124, 190, 1, 1, 1051, 1053, 22, 60, 1054), (8, 127, 109, 0, 2, 1058, 1059, 0, 60, 1060), (8, 130, 129, 1, 2, 1028, 1030, 17, 60, 1031), (8, 134, 110, 0, 2, 1036, 1037, 0, 60, 1038), (8, 137, 130, 1, 2, 1039, 1041, 19, 60, 1042), (8, 140, 131, 1, 1, 1024, 1026, 16, 60, 1027), (8, 143, 115, 1, 1, 1015, 1017, 14, 60, 1018), (8, 148, 132, 1, 1, 1020, 1022, 15, 60, 1023), (8, 151, 133, 0, 1, 1061, 1062, 0, 60, 1063), (8, 154, 126, 1, 2, 1064, 1066, 23, 60, 1067), (8, 157, 127, 1, 1, 1068, 1070, 24, 60, 1071), (8, 160, 118, 0, 2, 1076, 1077, 0, 60, 1078), (8, 164, 111, 1, 2, 1084, 1086, 25, 60, 1087), (8, 167, 108, 0, 1, 1104, 1105, 0, 60, 1106), (8, 176, 117, 1, 0, 1119, 1121, 26, 60, 1122), (8, 180, 147, 1, 0, 1152, 1154, 29, 60, 1155), (8, 183, 148, 1, 0, 1148, 1150, 28, 60, 1151), (8, 186, 149, 1, 1, 1144, 1146, 27, 60, 1147), (8, 192, 151, 1, 0, 1161, 1163, 30, 60, 1164), (8, 195, 153, 1, 0, 1177, 1179, 31, 60, 1180), (8, 198, 154, 1, 0, 1181, 1183, 32, 60, 1184), (8, 203, 160, 0, 2, 1197, 1198, 0, 60, 1199), (8, 206, 161, 1, 6, 1201, 1203, 33, 60, 1204), (8, 210, 163, 1, 3, 1209, 1211, 34, 60, 1212), (8, 235, 170, 1, 1, 1245, 1247, 37, 60, 1248), (8, 241, 171, 1, 1, 1251, 1253, 38, 60, 1254), (8, 247, 174, 1, 4, 1261, 1263, 40, 60, 1264), (8, 257, 179, 1, 1, 1269, 1271, 42, 60, 1272), (8, 260, 173, 1, 1, 1296, 1298, 48, 60, 1299), (8, 263, 172, 1, 0, 1241, 1243, 36, 60, 1244), (8, 266, 177, 1, 2, 1289, 1291, 47, 60, 1292), (8, 270, 180, 1, 1, 1273, 1275, 43, 60, 1276), (8, 273, 181, 1, 1, 1277, 1279, 44, 60, 1280), (8, 276, 182, 1, 1, 1281, 1283, 45, 60, 1284), (8, 279, 183, 1, 1, 1285, 1287, 46, 60, 1288), (8, 285, 176, 0, 2, 1293, 1294, 0, 60, 1295), (8, 294, 178, 1, 1, 1265, 1267, 41, 60, 1268), (8, 297, 112, 1, 1, 1047, 1049, 21, 60, 1050), (8, 300, 175, 1, 0, 1257, 1259, 39, 60, 1260), (8, 303, 184, 1, 0, 1237, 1239, 35, 60, 1240), (8, 306, 116, 1, 1, 1304, 1306, 49, 60, 1307), (8, 309, 189, 0, 3, 1055, 1056, 0, 60, 1057), (8, 314, 191, 0, 1, 1316, 1317, 0, 60, 1318), (8, 324, 196, 1, 2, 1341, 1343, 50, 60, 1344), (8, 327, 199, 0, 1, 1353, 1354, 0, 60, 1355), (8, 339, 205, 1, 2, 1377, 1379, 51, 60, 1380), (9, 335, 215, 1, 0, 623, 624, 625, 65, 626), (9, 492, 216, 1, 0, 633, 634, 635, 65, 636), (9, 495, 218, 0, 2, 637, 638, 0, 66, 639), (9, 505, 211, 1, 0, 708, 620, 621, 65, 622), (9, 633, 214, 1, 2, 704, 705, 706, 65, 707), (9, 637, 220, 0, 4, 709, 710, 0, 66, 711), (9, 1059, 222, 0, 3, 645, 646, 0, 67, 647), (10, 9, 217, 0, 2, 640, 641, 0, 65, 642), (10, 88, 219, 0, 1, 712, 713, 0, 66, 714), (10, 95, 221, 0, 4, 717, 718, 0, 66, 719), (14, 9, 50, 2, 0, 72, 73, 0, 53, 74), (14, 12, 106, 2, 0, 864, 865, 0, 60, 866), (14, 13, 51, 1, 5, 315, 316, 317, 53, 318), (14, 17, 125, 1, 5, 965, 966, 967, 60, 968), (14, 18, 52, 1, 2, 336, 337, 338, 53, 339), (14, 22, 134, 1, 2, 1011, 1012, 1013, 60, 1014), (14, 23, 53, 1, 2, 399, 400, 401, 53, 402), (14, 26, 135, 1, 2, 1072, 1073, 1074, 60, 1075), (14, 27, 54, 1, 2, 409, 410, 411, 53, 412), (14, 30, 136, 1, 2, 1080, 1081, 1082, 60, 1083), (14, 31, 55, 1, 3, 413, 414, 415, 53, 416), (14, 35, 137, 1, 3, 1088, 1089, 1090, 60, 1091), (14, 36, 56, 1, 2, 417, 418, 419, 53, 420), (14, 39, 138, 1, 2, 1092, 1093, 1094, 60, 1095), (14, 40, 57, 1, 2, 425, 426, 427, 53, 428), (14, 43, 139, 1, 2, 1096, 1097, 1098, 60, 1099), (14, 44, 58, 1, 1, 429, 430, 431, 53, 432), (14, 48, 140, 1, 1, 1100, 1101, 1102, 60, 1103), (14, 49, 59, 1, 2, 434, 435, 436, 53, 437), (14, 52, 141, 1, 2, 1108, 1109, 1110, 60, 1111), (14, 53, 60, 1, 1, 438, 439, 440, 53, 441), (14, 56, 142, 1, 1, 1114, 1115, 1116, 60, 1117), (14, 57, 61, 1, 1, 458, 459, 460, 53, 461), (14, 60, 143, 1, 1, 1124, 1125, 1126, 60, 1127), (14, 61, 62, 1, 1, 462, 463, 464, 53, 465), (14, 64, 144, 1, 1, 1128, 1129, 1130, 60, 1131), (14, 65, 63, 1, 1, 467, 468, 469, 53, 470), (14, 68, 145, 1, 1, 1132, 1133, 1134, 60, 1135), (14, 69, 64, 1, 1, 472, 473, 474, 53, 475), (14, 72, 146, 1, 1, 1136, 1137, 1138, 60, 1139), (14, 73, 65, 1, 1, 477, 478, 479, 53, 480), (14, 76, 150, 1, 1, 1140, 1141, 1142, 60, 1143), (14, 77, 66, 1, 1, 503, 504, 505, 53, 506), (14, 80, 152, 1, 1, 1156, 1157, 1158, 60, 1159), (14, 81, 67, 1, 2, 511, 512, 513, 53, 514), (14, 84, 155, 1, 2, 1165, 1166, 1167, 60, 1168), (14, 85, 68, 1, 2, 522, 523, 524, 53, 525), (14, 88, 156, 1, 2, 1169, 1170, 1171, 60, 1172), (14, 89, 69, 1, 2, 526, 527, 528, 53, 529), (14, 92, 157, 1, 2, 1173, 1174, 1175, 60, 1176), (14, 93, 70, 1, 1, 530, 531, 532, 53, 533), (14, 96, 158, 1, 1, 1185, 1186, 1187, 60, 1188), (14, 97, 71, 1, 1, 538, 539, 540, 53, 541), (14, 100, 159, 1, 1, 1189, 1190, 1191, 60, 1192), (14, 101, 72, 1, 3, 542, 543, 544, 53, 545), (14, 104, 162, 1, 3, 1193, 1194, 1195, 60, 1196), (14, 105, 73, 1, 3, 558, 559, 560, 53, 561), (14, 108, 164, 1, 3, 1205, 1206, 1207, 60, 1208), (14, 109, 74, 1, 3, 562, 563, 564, 53, 565), (14, 112, 165, 1, 3, 1213, 1214, 1215, 60, 1216), (14, 113, 75, 1, 2, 566, 567, 568, 53, 569), (14, 116, 197, 1, 2, 1337, 1338, 1339, 60, 1340), (14, 117, 76, 1, 0, 576, 577, 578, 53, 579), (14, 121, 166, 1, 0, 1217, 1218, 1219, 60, 1220), (14, 122, 77, 1, 1, 581, 582, 583, 53, 584), (14, 125, 167, 1, 1, 1221, 1222, 1223, 60, 1224), (14, 126, 78, 1, 3, 585, 586, 587, 53, 588), (14, 129, 168, 1, 3, 1225, 1226, 1227, 60, 1228), (14, 130, 79, 1, 1, 593, 594, 595, 53, 596), (14, 133, 169, 1, 1, 1229, 1230, 1231, 60, 1232), (14, 134, 80, 1, 0, 597, 598, 599, 53, 600), (14, 137, 185, 1, 0, 1233, 1234, 1235, 60, 1236), (14, 138, 81, 1, 2, 771, 772, 773, 53, 774), (14, 141, 186, 1, 2, 1300, 1301, 1302, 60, 1303), (14, 142, 82, 1, 1, 775, 776, 777, 53, 778), (14, 145, 188, 1, 1, 1308, 1309, 1310, 60, 1311), (14, 146, 83, 1, 3, 779, 780, 781, 53, 782), (14, 149, 192, 1, 3, 1312, 1313, 1314, 60, 1315), (14, 150, 84, 1, 3, 788, 789, 790, 53, 791), (14, 153, 193, 1, 3, 1321, 1322, 1323, 60, 1324), (14, 154, 85, 1, 1, 799, 800, 801, 53, 802), (14, 157, 194, 1, 1, 1329, 1330, 1331, 60, 1332), (14, 158, 86, 1, 1, 804, 805, 806, 53, 807), (14, 161, 195, 1, 1, 1333, 1334, 1335, 60, 1336), (14, 162, 87, 1, 5, 808, 809, 810, 53, 811), (14, 165, 198, 1, 5, 1345, 1346, 1347, 60, 1348), (14, 166, 88, 1, 3, 817, 818, 819, 53, 820), (14, 169, 200, 1, 3, 1349, 1350, 1351, 60, 1352), (14, 170, 89, 1, 2, 826, 827, 828, 53, 829), (14, 173, 201, 1, 2, 1356, 1357, 1358, 60, 1359), (14, 174, 90, 1, 2, 834, 835, 836, 53, 837), (14, 177, 202, 1, 2, 1360, 1361, 1362, 60, 1363), (14, 178, 91, 1, 2, 838, 839, 840, 53, 841), (14, 181, 203, 1, 2, 1364, 1365, 1366, 60, 1367), (14, 182, 92, 1, 1, 842, 843, 844, 53, 845), (14, 185, 204, 1, 1, 1368, 1369, 1370, 60, 1371), (14, 186, 93, 1, 1, 846, 847, 848, 53, 849), (14, 189, 206, 1, 1, 1372, 1373, 1374, 60, 1375), (14, 190, 94, 1, 0, 850, 851, 852, 53, 853), (14, 193, 207, 1, 0, 1381, 1382, 1383, 60, 1384), (14, 194, 95, 1, 0, 854, 855, 856, 53, 857), (14, 197, 208, 1, 0, 1385, 1386, 1387, 60, 1388), (14, 198, 96, 1, 1, 858, 859, 860, 53, 861), (14, 201, 209, 1, 1, 1389, 1390, 1391, 60, 1392)]
def cstT : List (Nat × Nat × Int32 × Nat) := [(6, 74, 1103515245, 451), (7, 75, (-1000000001), 325), (7, 80, (-1000000002), 330), (7, 84, (-1000000003), 331), (7, 123, (-1000000012), 408), (7, 134, (-1000000005), 433), (7, 200, (-1000000011), 570), (7, 235, (-1000000014), 783), (7, 245, (-1000000013), 796), (7, 249, (-99999), 797), (7, 250, 99999, 798), (8, 67, (-1000000005), 1107), (8, 72, 1103515245, 1123), (8, 108, (-1000000001), 984), (8, 112, (-1000000002), 1001), (8, 113, (-1000000003), 1002), (8, 163, (-1000000012), 1079), (8, 317, (-1000000014), 1320), (8, 318, (-1000000011), 1325), (8, 319, (-1000000013), 1326), (12, 265, 1431655765, 390), (12, 266, 858993459, 391), (12, 267, 252645135, 392)]
def lngT : List (Nat × Nat × Int64 × Nat) := [(8, 73, 19, 976), (8, 91, 200, 980), (8, 93, 50, 981), (8, 95, (-1), 982), (8, 97, 7, 983), (8, 99, 5, 969), (8, 146, 6, 1019), (8, 170, 2, 1112), (8, 172, 100, 1113), (8, 174, 8, 1118), (8, 190, 4, 1160), (8, 201, 60, 1200), (8, 218, 97, 1249), (8, 220, 122, 1250), (8, 222, 48, 1255), (8, 224, 57, 1256), (8, 312, 3, 1319), (8, 320, (-99999), 1327), (8, 322, 99999, 1328), (8, 333, 30, 1376)]
def strT : List (Nat × Nat × Nat × Nat) := [(2, 48, 0, 614), (2, 54, 1, 667), (2, 56, 2, 668), (2, 87, 3, 766), (2, 89, 4, 767), (2, 91, 5, 768), (2, 93, 6, 769), (2, 95, 7, 770), (2, 130, 8, 697), (2, 132, 9, 698), (2, 134, 10, 699)]
def newT : List (Nat × Nat × Nat × Nat) := [(1, 9, 4, 84), (4, 7, 2, 258), (7, 7, 0, 78), (7, 16, 1, 120), (7, 23, 5, 153), (7, 38, 2, 231), (7, 44, 3, 233), (14, 7, 6, 70), (14, 10, 7, 862)]
def anwT : List (Nat × Nat × Nat × Nat) := [(1, 9, 4, 84), (7, 38, 2, 231), (7, 44, 3, 233)]
def objT : List (Nat × Nat × Nat) := [(1, 3, 83), (2, 3, 125), (3, 3, 239), (4, 1, 257), (5, 3, 90), (6, 3, 158), (7, 1, 75), (8, 1, 867)]
def acpT : List (Nat × Nat × Nat) := [(3, 22, 825), (6, 68, 519), (7, 257, 816)]
def gstT : List (Nat × Nat × Nat × Nat) := [(0, 9, 0, 406), (9, 38, 1, 627), (9, 1053, 2, 643)]
def sfdT : List (Nat × Nat × Nat × Nat) := [(9, 9, 0, 1393), (9, 15, 1, 1394)]
def matT : List (Nat × Nat × Nat × Nat) := [(2, 72, 1, 613), (6, 95, 0, 364), (6, 107, 2, 371), (6, 116, 1, 381), (7, 138, 1, 442), (7, 284, 0, 493), (7, 291, 2, 575), (10, 38, 1, 716), (10, 92, 0, 715)]
def strX : List (List Int32) := [[112, 117, 108, 108], [102, 101, 101], [102, 105, 110, 101], [124], [38], [60, 61, 62], [43, 45], [42, 47], [115, 110, 102], [103, 118], [115, 112]]
def strN : List String := ["pull", "fee", "fine", "|", "&", "<=>", "+-", "*/", "snf", "gv", "sp"]
def fldE (own idx : Nat) := fldT.find? (fun e => e.1 == own && e.2.1 == idx)
def mthE (own idx : Nat) := mthT.find? (fun e => e.1 == own && e.2.1 == idx)
def cstE (own idx : Nat) := cstT.find? (fun e => e.1 == own && e.2.1 == idx)
def lngE (own idx : Nat) := lngT.find? (fun e => e.1 == own && e.2.1 == idx)
def strE (own idx : Nat) := strT.find? (fun e => e.1 == own && e.2.1 == idx)
def newE (own idx : Nat) := newT.find? (fun e => e.1 == own && e.2.1 == idx)
def anwE (own idx : Nat) := anwT.find? (fun e => e.1 == own && e.2.1 == idx)
def objE (own idx : Nat) := objT.find? (fun e => e.1 == own && e.2.1 == idx)
def acpE (own idx : Nat) := acpT.find? (fun e => e.1 == own && e.2.1 == idx)
def gstE (own idx : Nat) := gstT.find? (fun e => e.1 == own && e.2.1 == idx)
def sfdE (own idx : Nat) := sfdT.find? (fun e => e.1 == own && e.2.1 == idx)
def matE (own idx : Nat) := matT.find? (fun e => e.1 == own && e.2.1 == idx)
