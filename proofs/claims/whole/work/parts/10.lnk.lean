/-! method records, words by their places, links (printed by walk.py) -/
abbrev MJ0_checkBoundsBeginEnd_23922 : MR := (yJ0_checkBoundsBeginEnd_23922, cJ0_checkBoundsBeginEnd_23922, 3, none)
abbrev MJ0_coder_7d493 : MR := (yJ0_coder_7d493, cJ0_coder_7d493, 1, (some .byte))
abbrev MJ0_indexOf_0f7a4 : MR := (yJ0_indexOf_0f7a4, cJ0_indexOf_0f7a4, 2, (some .int))
abbrev MJ0_indexOf_7cf53 : MR := (yJ0_indexOf_7cf53, cJ0_indexOf_7cf53, 3, (some .int))
abbrev MJ0_isLatin1_aae02 : MR := (yJ0_isLatin1_aae02, cJ0_isLatin1_aae02, 1, (some .boolean))
abbrev MJ0_length_8abf5 : MR := (yJ0_length_8abf5, cJ0_length_8abf5, 1, (some .int))
abbrev MJ11_highSurrogate_5068e : MR := (yJ11_highSurrogate_5068e, cJ11_highSurrogate_5068e, 1, (some .char))
abbrev MJ11_isValidCodePoint_9a6ad : MR := (yJ11_isValidCodePoint_9a6ad, cJ11_isValidCodePoint_9a6ad, 2, (some .boolean))
abbrev MJ11_lowSurrogate_5068e : MR := (yJ11_lowSurrogate_5068e, cJ11_lowSurrogate_5068e, 1, (some .char))
abbrev MJ15_checkIndex_7cf53 : MR := (yJ15_checkIndex_7cf53, cJ15_checkIndex_7cf53, 2, (some .int))
abbrev MJ1_canEncode_9a6ad : MR := (yJ1_canEncode_9a6ad, cJ1_canEncode_9a6ad, 1, (some .boolean))
abbrev MJ1_indexOfChar_4cfef : MR := (yJ1_indexOfChar_4cfef, cJ1_indexOfChar_4cfef, 6, (some .int))
abbrev MJ1_indexOf_4cfef : MR := (yJ1_indexOf_4cfef, cJ1_indexOf_4cfef, 4, (some .int))
abbrev MJ2_checkBoundsBeginEnd_d044e : MR := (yJ2_checkBoundsBeginEnd_d044e, cJ2_checkBoundsBeginEnd_d044e, 3, none)
abbrev MJ2_getChar_3b067 : MR := (yJ2_getChar_3b067, cJ2_getChar_3b067, 2, (some .char))
abbrev MJ2_indexOfCharUnsafe_4cfef : MR := (yJ2_indexOfCharUnsafe_4cfef, cJ2_indexOfCharUnsafe_4cfef, 5, (some .int))
abbrev MJ2_indexOfChar_4cfef : MR := (yJ2_indexOfChar_4cfef, cJ2_indexOfChar_4cfef, 4, (some .int))
abbrev MJ2_indexOfSupplementary_4cfef : MR := (yJ2_indexOfSupplementary_4cfef, cJ2_indexOfSupplementary_4cfef, 7, (some .int))
abbrev MJ2_indexOf_4cfef : MR := (yJ2_indexOf_4cfef, cJ2_indexOf_4cfef, 4, (some .int))
abbrev MJ2_length_9d52b : MR := (yJ2_length_9d52b, cJ2_length_9d52b, 1, (some .int))
abbrev MJ3_checkFromToIndex_8c36e : MR := (yJ3_checkFromToIndex_8c36e, cJ3_checkFromToIndex_8c36e, 4, (some .int))
abbrev MJ3_checkIndex_8e157 : MR := (yJ3_checkIndex_8e157, cJ3_checkIndex_8e157, 3, (some .int))
abbrev MJ6_bitCount_0f7a4 : MR := (yJ6_bitCount_0f7a4, cJ6_bitCount_0f7a4, 1, (some .int))
abbrev MJ7_copyOf_1904c : MR := (yJ7_copyOf_1904c, cJ7_copyOf_1904c, 2, (some (.array (.object "java/lang/Object"))))
abbrev MJ7_copyOf_59c91 : MR := (yJ7_copyOf_59c91, cJ7_copyOf_59c91, 3, (some (.array .int)))
abbrev MJ7_copyOf_6403c : MR := (yJ7_copyOf_6403c, cJ7_copyOf_6403c, 4, (some (.array (.object "java/lang/Object"))))
abbrev MJ7_fill_53178 : MR := (yJ7_fill_53178, cJ7_fill_53178, 4, none)
abbrev MJ8_hugeLength_7cf53 : MR := (yJ8_hugeLength_7cf53, cJ8_hugeLength_7cf53, 3, (some .int))
abbrev MJ8_newLength_cabcc : MR := (yJ8_newLength_cabcc, cJ8_newLength_cabcc, 4, (some .int))
abbrev MJ9_abs_067f4 : MR := (yJ9_abs_067f4, cJ9_abs_067f4, 2, (some .long))
abbrev MJ9_abs_0f7a4 : MR := (yJ9_abs_0f7a4, cJ9_abs_0f7a4, 1, (some .int))
abbrev MJ9_max_7cf53 : MR := (yJ9_max_7cf53, cJ9_max_7cf53, 2, (some .int))
abbrev MJ9_max_f86c9 : MR := (yJ9_max_f86c9, cJ9_max_f86c9, 4, (some .long))
abbrev MJ9_min_7cf53 : MR := (yJ9_min_7cf53, cJ9_min_7cf53, 2, (some .int))
abbrev MJ9_min_f86c9 : MR := (yJ9_min_f86c9, cJ9_min_f86c9, 4, (some .long))
abbrev MJx4a65c_add_72be8 : MR := (yJx4a65c_add_72be8, cJx4a65c_add_72be8, 4, none)
abbrev MJx4a65c_add_9ea2d : MR := (yJx4a65c_add_9ea2d, cJx4a65c_add_9ea2d, 2, (some .boolean))
abbrev MJx4a65c_elementData_915e3 : MR := (yJx4a65c_elementData_915e3, cJx4a65c_elementData_915e3, 2, (some (.object "java/lang/Object")))
abbrev MJx4a65c_get_915e3 : MR := (yJx4a65c_get_915e3, cJx4a65c_get_915e3, 2, (some (.object "java/lang/Object")))
abbrev MJx4a65c_grow_92f84 : MR := (yJx4a65c_grow_92f84, cJx4a65c_grow_92f84, 4, (some (.array (.object "java/lang/Object"))))
abbrev MJx4a65c_grow_d5877 : MR := (yJx4a65c_grow_d5877, cJx4a65c_grow_d5877, 1, (some (.array (.object "java/lang/Object"))))
abbrev MJx4a65c_init_da8c8 : MR := (yJx4a65c_init_da8c8, cJx4a65c_init_da8c8, 1, none)
abbrev MJx4a65c_size_8abf5 : MR := (yJx4a65c_size_8abf5, cJx4a65c_size_8abf5, 1, (some .int))
abbrev MJxa1e45_init_da8c8 : MR := (yJxa1e45_init_da8c8, cJxa1e45_init_da8c8, 1, none)
abbrev MJxc12de_init_da8c8 : MR := (yJxc12de_init_da8c8, cJxc12de_init_da8c8, 1, none)
abbrev MX0_init : MR := (yX0_init, cX0_init, 6, none)
abbrev MX0_isOf : MR := (yX0_isOf, cX0_isOf, 4, (some .boolean))
abbrev MX10_add : MR := (yX10_add, cX10_add, 4, none)
abbrev MX10_chanceAt : MR := (yX10_chanceAt, cX10_chanceAt, 9, (some .int))
abbrev MX10_clear : MR := (yX10_clear, cX10_clear, 1, none)
abbrev MX10_dayAt : MR := (yX10_dayAt, cX10_dayAt, 2, (some .int))
abbrev MX10_distance : MR := (yX10_distance, cX10_distance, 6, (some .long))
abbrev MX10_init : MR := (yX10_init, cX10_init, 1, none)
abbrev MX10_split : MR := (yX10_split, cX10_split, 13, (some .int))
abbrev MX10_sumAhead : MR := (yX10_sumAhead, cX10_sumAhead, 4, (some .int))
abbrev MX11_agree : MR := (yX11_agree, cX11_agree, 10, (some .int))
abbrev MX11_alike : MR := (yX11_alike, cX11_alike, 3, (some .int))
abbrev MX11_alikeTo : MR := (yX11_alikeTo, cX11_alikeTo, 5, (some .int))
abbrev MX11_allHaveAlike : MR := (yX11_allHaveAlike, cX11_allHaveAlike, 4, (some .boolean))
abbrev MX11_allPeople : MR := (yX11_allPeople, cX11_allPeople, 4, (some .int))
abbrev MX11_asked : MR := (yX11_asked, cX11_asked, 5, (some .int))
abbrev MX11_bearers : MR := (yX11_bearers, cX11_bearers, 5, (some .int))
abbrev MX11_beside : MR := (yX11_beside, cX11_beside, 8, (some .int))
abbrev MX11_buy : MR := (yX11_buy, cX11_buy, 9, (some .int))
abbrev MX11_bytesIn : MR := (yX11_bytesIn, cX11_bytesIn, 3, (some .int))
abbrev MX11_count : MR := (yX11_count, cX11_count, 2, (some .int))
abbrev MX11_days : MR := (yX11_days, cX11_days, 2, (some .int))
abbrev MX11_digest : MR := (yX11_digest, cX11_digest, 7, (some .int))
abbrev MX11_digestSize : MR := (yX11_digestSize, cX11_digestSize, 4, (some .int))
abbrev MX11_draw : MR := (yX11_draw, cX11_draw, 10, none)
abbrev MX11_end : MR := (yX11_end, cX11_end, 2, (some .boolean))
abbrev MX11_fault : MR := (yX11_fault, cX11_fault, 1, (some .int))
abbrev MX11_feed : MR := (yX11_feed, cX11_feed, 7, (some .int))
abbrev MX11_force : MR := (yX11_force, cX11_force, 3, (some .int))
abbrev MX11_habit : MR := (yX11_habit, cX11_habit, 9, (some .int))
abbrev MX11_happen : MR := (yX11_happen, cX11_happen, 5, (some .boolean))
abbrev MX11_hasStoppedBy : MR := (yX11_hasStoppedBy, cX11_hasStoppedBy, 5, (some .boolean))
abbrev MX11_hasTheFirstUnlike : MR := (yX11_hasTheFirstUnlike, cX11_hasTheFirstUnlike, 3, (some .boolean))
abbrev MX11_held : MR := (yX11_held, cX11_held, 7, (some .int))
abbrev MX11_hide : MR := (yX11_hide, cX11_hide, 6, (some .int))
abbrev MX11_init : MR := (yX11_init, cX11_init, 1, none)
abbrev MX11_insertPick : MR := (yX11_insertPick, cX11_insertPick, 8, (some .int))
abbrev MX11_isCoin : MR := (yX11_isCoin, cX11_isCoin, 1, (some .boolean))
abbrev MX11_isDay : MR := (yX11_isDay, cX11_isDay, 1, (some .boolean))
abbrev MX11_isDigest : MR := (yX11_isDigest, cX11_isDigest, 5, (some .boolean))
abbrev MX11_isDrawn : MR := (yX11_isDrawn, cX11_isDrawn, 4, (some .boolean))
abbrev MX11_isHearing : MR := (yX11_isHearing, cX11_isHearing, 4, (some .boolean))
abbrev MX11_isHour : MR := (yX11_isHour, cX11_isHour, 1, (some .boolean))
abbrev MX11_isKnownDay : MR := (yX11_isKnownDay, cX11_isKnownDay, 2, (some .boolean))
abbrev MX11_isLine : MR := (yX11_isLine, cX11_isLine, 2, (some .boolean))
abbrev MX11_isLineKnown : MR := (yX11_isLineKnown, cX11_isLineKnown, 3, (some .boolean))
abbrev MX11_isLotSize : MR := (yX11_isLotSize, cX11_isLotSize, 2, (some .boolean))
abbrev MX11_isPerson : MR := (yX11_isPerson, cX11_isPerson, 2, (some .boolean))
abbrev MX11_isPlace : MR := (yX11_isPlace, cX11_isPlace, 1, (some .boolean))
abbrev MX11_isRank : MR := (yX11_isRank, cX11_isRank, 1, (some .boolean))
abbrev MX11_isReader : MR := (yX11_isReader, cX11_isReader, 1, (some .boolean))
abbrev MX11_isSaying : MR := (yX11_isSaying, cX11_isSaying, 1, (some .boolean))
abbrev MX11_isSort : MR := (yX11_isSort, cX11_isSort, 1, (some .boolean))
abbrev MX11_isWithin : MR := (yX11_isWithin, cX11_isWithin, 3, (some .boolean))
abbrev MX11_judge : MR := (yX11_judge, cX11_judge, 3, (some .int))
abbrev MX11_land : MR := (yX11_land, cX11_land, 4, (some .boolean))
abbrev MX11_last : MR := (yX11_last, cX11_last, 3, (some .int))
abbrev MX11_lastOf : MR := (yX11_lastOf, cX11_lastOf, 7, (some .int))
abbrev MX11_layMarks : MR := (yX11_layMarks, cX11_layMarks, 4, none)
abbrev MX11_lean : MR := (yX11_lean, cX11_lean, 10, (some .int))
abbrev MX11_left : MR := (yX11_left, cX11_left, 5, (some .int))
abbrev MX11_line : MR := (yX11_line, cX11_line, 7, (some .int))
abbrev MX11_linesFor : MR := (yX11_linesFor, cX11_linesFor, 5, (some .int))
abbrev MX11_lot : MR := (yX11_lot, cX11_lot, 5, (some .int))
abbrev MX11_mark : MR := (yX11_mark, cX11_mark, 4, (some .boolean))
abbrev MX11_marked : MR := (yX11_marked, cX11_marked, 4, (some .int))
abbrev MX11_mayBeShown : MR := (yX11_mayBeShown, cX11_mayBeShown, 5, (some .boolean))
abbrev MX11_meanMood : MR := (yX11_meanMood, cX11_meanMood, 10, (some .int))
abbrev MX11_mood : MR := (yX11_mood, cX11_mood, 7, (some .int))
abbrev MX11_person : MR := (yX11_person, cX11_person, 4, (some .int))
abbrev MX11_personsGone : MR := (yX11_personsGone, cX11_personsGone, 3, (some .int))
abbrev MX11_pickDigest : MR := (yX11_pickDigest, cX11_pickDigest, 10, (some .int))
abbrev MX11_priceOf : MR := (yX11_priceOf, cX11_priceOf, 4, (some .int))
abbrev MX11_question : MR := (yX11_question, cX11_question, 3, (some .int))
abbrev MX11_readersGiving : MR := (yX11_readersGiving, cX11_readersGiving, 5, (some .int))
abbrev MX11_rule : MR := (yX11_rule, cX11_rule, 2, (some .int))
abbrev MX11_ruleInForce : MR := (yX11_ruleInForce, cX11_ruleInForce, 7, (some .int))
abbrev MX11_setPersonLetters : MR := (yX11_setPersonLetters, cX11_setPersonLetters, 2, none)
abbrev MX11_share : MR := (yX11_share, cX11_share, 3, (some .int))
abbrev MX11_shown : MR := (yX11_shown, cX11_shown, 5, (some .int))
abbrev MX11_sortsOf : MR := (yX11_sortsOf, cX11_sortsOf, 4, (some .int))
abbrev MX11_span : MR := (yX11_span, cX11_span, 12, (some .int))
abbrev MX11_stop : MR := (yX11_stop, cX11_stop, 3, (some .boolean))
abbrev MX11_stopDayOf : MR := (yX11_stopDayOf, cX11_stopDayOf, 5, (some .int))
abbrev MX11_stopped : MR := (yX11_stopped, cX11_stopped, 3, (some .int))
abbrev MX11_strengthOf : MR := (yX11_strengthOf, cX11_strengthOf, 2, (some .int))
abbrev MX11_table : MR := (yX11_table, cX11_table, 2, (some .int))
abbrev MX11_told : MR := (yX11_told, cX11_told, 3, (some .int))
abbrev MX11_truth : MR := (yX11_truth, cX11_truth, 7, (some .int))
abbrev MX11_turn : MR := (yX11_turn, cX11_turn, 7, (some .int))
abbrev MX11_want : MR := (yX11_want, cX11_want, 3, (some .int))
abbrev MX11_watcher : MR := (yX11_watcher, cX11_watcher, 3, (some .int))
abbrev MX11_way : MR := (yX11_way, cX11_way, 10, (some .int))
abbrev MX11_wayPart : MR := (yX11_wayPart, cX11_wayPart, 4, (some .int))
abbrev MX11_wordOf : MR := (yX11_wordOf, cX11_wordOf, 7, (some (.object "DiaryHouse$Line")))
abbrev MX11_worthOf : MR := (yX11_worthOf, cX11_worthOf, 3, (some .int))
abbrev MX12_agree : MR := (yX12_agree, cX12_agree, 9, (some .int))
abbrev MX12_alike : MR := (yX12_alike, cX12_alike, 3, (some .int))
abbrev MX12_alikeOf : MR := (yX12_alikeOf, cX12_alikeOf, 6, (some .int))
abbrev MX12_apart : MR := (yX12_apart, cX12_apart, 9, (some .long))
abbrev MX12_asked : MR := (yX12_asked, cX12_asked, 5, (some .int))
abbrev MX12_atom : MR := (yX12_atom, cX12_atom, 4, (some .int))
abbrev MX12_bearers : MR := (yX12_bearers, cX12_bearers, 5, (some .int))
abbrev MX12_beside : MR := (yX12_beside, cX12_beside, 7, (some .int))
abbrev MX12_bound : MR := (yX12_bound, cX12_bound, 2, (some .int))
abbrev MX12_buy : MR := (yX12_buy, cX12_buy, 6, (some .int))
abbrev MX12_bytesIn : MR := (yX12_bytesIn, cX12_bytesIn, 3, (some .int))
abbrev MX12_clause : MR := (yX12_clause, cX12_clause, 5, none)
abbrev MX12_compares : MR := (yX12_compares, cX12_compares, 6, (some .boolean))
abbrev MX12_condition : MR := (yX12_condition, cX12_condition, 5, (some .boolean))
abbrev MX12_count : MR := (yX12_count, cX12_count, 4, (some .int))
abbrev MX12_days : MR := (yX12_days, cX12_days, 2, (some .int))
abbrev MX12_digest : MR := (yX12_digest, cX12_digest, 6, (some .int))
abbrev MX12_digests : MR := (yX12_digests, cX12_digests, 9, (some .boolean))
abbrev MX12_draws : MR := (yX12_draws, cX12_draws, 9, (some .boolean))
abbrev MX12_end : MR := (yX12_end, cX12_end, 2, (some .boolean))
abbrev MX12_fails : MR := (yX12_fails, cX12_fails, 1, (some .boolean))
abbrev MX12_fault : MR := (yX12_fault, cX12_fault, 1, (some .int))
abbrev MX12_feed : MR := (yX12_feed, cX12_feed, 6, (some .int))
abbrev MX12_force : MR := (yX12_force, cX12_force, 3, (some .int))
abbrev MX12_goThrough : MR := (yX12_goThrough, cX12_goThrough, 5, none)
abbrev MX12_goesIn : MR := (yX12_goesIn, cX12_goesIn, 1, (some .boolean))
abbrev MX12_habit : MR := (yX12_habit, cX12_habit, 9, (some .int))
abbrev MX12_happen : MR := (yX12_happen, cX12_happen, 5, (some .boolean))
abbrev MX12_held : MR := (yX12_held, cX12_held, 8, (some .int))
abbrev MX12_hide : MR := (yX12_hide, cX12_hide, 6, (some .int))
abbrev MX12_init : MR := (yX12_init, cX12_init, 1, none)
abbrev MX12_isDay : MR := (yX12_isDay, cX12_isDay, 1, (some .boolean))
abbrev MX12_isDigit : MR := (yX12_isDigit, cX12_isDigit, 1, (some .boolean))
abbrev MX12_isIn : MR := (yX12_isIn, cX12_isIn, 3, (some .boolean))
abbrev MX12_isKnown : MR := (yX12_isKnown, cX12_isKnown, 2, (some .boolean))
abbrev MX12_isLine : MR := (yX12_isLine, cX12_isLine, 2, (some .boolean))
abbrev MX12_isLineBy : MR := (yX12_isLineBy, cX12_isLineBy, 3, (some .boolean))
abbrev MX12_isPerson : MR := (yX12_isPerson, cX12_isPerson, 2, (some .boolean))
abbrev MX12_isReader : MR := (yX12_isReader, cX12_isReader, 1, (some .boolean))
abbrev MX12_isSign : MR := (yX12_isSign, cX12_isSign, 1, (some .boolean))
abbrev MX12_isSort : MR := (yX12_isSort, cX12_isSort, 1, (some .boolean))
abbrev MX12_isStopped : MR := (yX12_isStopped, cX12_isStopped, 4, (some .boolean))
abbrev MX12_judge : MR := (yX12_judge, cX12_judge, 3, (some .int))
abbrev MX12_land : MR := (yX12_land, cX12_land, 4, (some .boolean))
abbrev MX12_last : MR := (yX12_last, cX12_last, 3, (some .int))
abbrev MX12_lastOf : MR := (yX12_lastOf, cX12_lastOf, 5, (some .int))
abbrev MX12_lean : MR := (yX12_lean, cX12_lean, 10, (some .int))
abbrev MX12_left : MR := (yX12_left, cX12_left, 5, (some .int))
abbrev MX12_letPerson : MR := (yX12_letPerson, cX12_letPerson, 2, none)
abbrev MX12_line : MR := (yX12_line, cX12_line, 8, (some .int))
abbrev MX12_look : MR := (yX12_look, cX12_look, 1, (some .int))
abbrev MX12_lot : MR := (yX12_lot, cX12_lot, 5, (some .int))
abbrev MX12_mark : MR := (yX12_mark, cX12_mark, 4, (some .boolean))
abbrev MX12_markOf : MR := (yX12_markOf, cX12_markOf, 6, (some .int))
abbrev MX12_marked : MR := (yX12_marked, cX12_marked, 4, (some .int))
abbrev MX12_maySee : MR := (yX12_maySee, cX12_maySee, 5, (some .boolean))
abbrev MX12_mayShow : MR := (yX12_mayShow, cX12_mayShow, 5, (some .boolean))
abbrev MX12_mood : MR := (yX12_mood, cX12_mood, 7, (some .int))
abbrev MX12_noLetters : MR := (yX12_noLetters, cX12_noLetters, 2, none)
abbrev MX12_part : MR := (yX12_part, cX12_part, 5, (some .boolean))
abbrev MX12_people : MR := (yX12_people, cX12_people, 3, (some .int))
abbrev MX12_person : MR := (yX12_person, cX12_person, 4, (some .int))
abbrev MX12_priceOf : MR := (yX12_priceOf, cX12_priceOf, 4, (some .int))
abbrev MX12_put : MR := (yX12_put, cX12_put, 3, none)
abbrev MX12_question : MR := (yX12_question, cX12_question, 3, (some .int))
abbrev MX12_rule : MR := (yX12_rule, cX12_rule, 3, (some .int))
abbrev MX12_ruleOn : MR := (yX12_ruleOn, cX12_ruleOn, 5, (some .int))
abbrev MX12_shown : MR := (yX12_shown, cX12_shown, 5, (some .int))
abbrev MX12_sortsOf : MR := (yX12_sortsOf, cX12_sortsOf, 4, (some .int))
abbrev MX12_span : MR := (yX12_span, cX12_span, 15, (some .int))
abbrev MX12_stop : MR := (yX12_stop, cX12_stop, 3, (some .boolean))
abbrev MX12_stopped : MR := (yX12_stopped, cX12_stopped, 3, (some .int))
abbrev MX12_stopsFrom : MR := (yX12_stopsFrom, cX12_stopsFrom, 5, (some .int))
abbrev MX12_stratum : MR := (yX12_stratum, cX12_stratum, 2, (some .int))
abbrev MX12_sum : MR := (yX12_sum, cX12_sum, 5, (some .int))
abbrev MX12_table : MR := (yX12_table, cX12_table, 2, (some .int))
abbrev MX12_takes : MR := (yX12_takes, cX12_takes, 2, (some .boolean))
abbrev MX12_term : MR := (yX12_term, cX12_term, 5, (some .int))
abbrev MX12_thrown : MR := (yX12_thrown, cX12_thrown, 1, (some .int))
abbrev MX12_told : MR := (yX12_told, cX12_told, 3, (some .int))
abbrev MX12_truth : MR := (yX12_truth, cX12_truth, 5, (some .int))
abbrev MX12_tryTable : MR := (yX12_tryTable, cX12_tryTable, 4, none)
abbrev MX12_turn : MR := (yX12_turn, cX12_turn, 10, (some .int))
abbrev MX12_unit : MR := (yX12_unit, cX12_unit, 3, (some .boolean))
abbrev MX12_want : MR := (yX12_want, cX12_want, 3, (some .int))
abbrev MX12_watcher : MR := (yX12_watcher, cX12_watcher, 3, (some .int))
abbrev MX12_way : MR := (yX12_way, cX12_way, 11, (some .int))
abbrev MX12_wordOf : MR := (yX12_wordOf, cX12_wordOf, 6, (some .int))
abbrev MX12_worth : MR := (yX12_worth, cX12_worth, 5, (some .int))
abbrev MX1_init : MR := (yX1_init, cX1_init, 8, none)
abbrev MX1_isFor : MR := (yX1_isFor, cX1_isFor, 3, (some .boolean))
abbrev MX1_part : MR := (yX1_part, cX1_part, 2, (some .int))
abbrev MX2_init : MR := (yX2_init, cX2_init, 5, none)
abbrev MX3_clear : MR := (yX3_clear, cX3_clear, 1, none)
abbrev MX3_init : MR := (yX3_init, cX3_init, 1, none)
abbrev MX3_pop : MR := (yX3_pop, cX3_pop, 1, (some .int))
abbrev MX3_push : MR := (yX3_push, cX3_push, 2, none)
abbrev MX4_init : MR := (yX4_init, cX4_init, 5, none)
abbrev MX4_isLike : MR := (yX4_isLike, cX4_isLike, 3, (some .boolean))
abbrev MX4_livesIn : MR := (yX4_livesIn, cX4_livesIn, 3, (some .boolean))
abbrev MX5_init : MR := (yX5_init, cX5_init, 3, none)
abbrev MX6_init : MR := (yX6_init, cX6_init, 4, none)
abbrev MX6_joined : MR := (yX6_joined, cX6_joined, 5, (some .int))
abbrev MX6_work : MR := (yX6_work, cX6_work, 7, none)
abbrev MX6_worth : MR := (yX6_worth, cX6_worth, 9, (some .int))
abbrev MX7_init : MR := (yX7_init, cX7_init, 4, none)
abbrev MX8_addWanted : MR := (yX8_addWanted, cX8_addWanted, 3, (some .int))
abbrev MX8_addWatcher : MR := (yX8_addWatcher, cX8_addWatcher, 3, (some .int))
abbrev MX8_canBothBeSeen : MR := (yX8_canBothBeSeen, cX8_canBothBeSeen, 4, (some .boolean))
abbrev MX8_canSee : MR := (yX8_canSee, cX8_canSee, 4, (some .boolean))
abbrev MX8_init : MR := (yX8_init, cX8_init, 1, none)
abbrev MX8_planAnew : MR := (yX8_planAnew, cX8_planAnew, 1, none)
abbrev MX8_seen : MR := (yX8_seen, cX8_seen, 1, (some .int))
abbrev MX8_tryFrom : MR := (yX8_tryFrom, cX8_tryFrom, 4, none)
abbrev MX8_wanted : MR := (yX8_wanted, cX8_wanted, 1, (some .int))
abbrev MX8_watcherOf : MR := (yX8_watcherOf, cX8_watcherOf, 2, (some .int))
abbrev MX8_watchers : MR := (yX8_watchers, cX8_watchers, 1, (some .int))
abbrev MX9_addCode : MR := (yX9_addCode, cX9_addCode, 2, none)
abbrev MX9_append : MR := (yX9_append, cX9_append, 4, none)
abbrev MX9_codesRead : MR := (yX9_codesRead, cX9_codesRead, 1, (some (.array .int)))
abbrev MX9_cut : MR := (yX9_cut, cX9_cut, 2, none)
abbrev MX9_init : MR := (yX9_init, cX9_init, 1, none)
abbrev MX9_length : MR := (yX9_length, cX9_length, 1, (some .int))
abbrev MX9_read : MR := (yX9_read, cX9_read, 3, (some .int))
abbrev MX9_readAtom : MR := (yX9_readAtom, cX9_readAtom, 2, (some .boolean))
abbrev MX9_readClause : MR := (yX9_readClause, cX9_readClause, 3, (some .boolean))
abbrev MX9_readComparison : MR := (yX9_readComparison, cX9_readComparison, 3, (some .boolean))
abbrev MX9_readCondition : MR := (yX9_readCondition, cX9_readCondition, 2, (some .boolean))
abbrev MX9_readMoreParts : MR := (yX9_readMoreParts, cX9_readMoreParts, 4, (some .boolean))
abbrev MX9_readMoreUnits : MR := (yX9_readMoreUnits, cX9_readMoreUnits, 4, (some .boolean))
abbrev MX9_readNumber : MR := (yX9_readNumber, cX9_readNumber, 3, (some .boolean))
abbrev MX9_readPart : MR := (yX9_readPart, cX9_readPart, 2, (some .boolean))
abbrev MX9_readSum : MR := (yX9_readSum, cX9_readSum, 5, (some .boolean))
abbrev MX9_readTerm : MR := (yX9_readTerm, cX9_readTerm, 5, (some .boolean))
abbrev MX9_readUnit : MR := (yX9_readUnit, cX9_readUnit, 5, (some .boolean))
abbrev MX9_sees : MR := (yX9_sees, cX9_sees, 2, (some .boolean))
abbrev MX9_take : MR := (yX9_take, cX9_take, 3, (some .boolean))
abbrev MX9_takeSign : MR := (yX9_takeSign, cX9_takeSign, 1, (some .char))
theorem tb1 : (Cond.initialized "DiaryHouse") ∈ lw_tbl := tb_r (List.mem_of_getElem? (i := 1) (by decide +kernel))
theorem tb2 : (Cond.initialized "java/util/AbstractCollection") ∈ lw_tbl := tb_r (List.mem_of_getElem? (i := 2) (by decide +kernel))
theorem tb3 : (Cond.initialized "java/util/AbstractList") ∈ lw_tbl := tb_r (List.mem_of_getElem? (i := 3) (by decide +kernel))
theorem tb4 : (Cond.initialized "java/util/ArrayList") ∈ lw_tbl := tb_r (List.mem_of_getElem? (i := 4) (by decide +kernel))
theorem tb5 : (Cond.initialized "DiaryHouse$Tape") ∈ lw_tbl := tb_r (List.mem_of_getElem? (i := 5) (by decide +kernel))
theorem tb6 : (Cond.initialized "DiaryHouse$Table") ∈ lw_tbl := tb_r (List.mem_of_getElem? (i := 6) (by decide +kernel))
theorem tb7 : (Cond.initialized "DiaryHouse$Turn") ∈ lw_tbl := tb_r (List.mem_of_getElem? (i := 7) (by decide +kernel))
theorem tb8 : (Cond.initialized "java/lang/String") ∈ lw_tbl := tb_r (List.mem_of_getElem? (i := 8) (by decide +kernel))
theorem tb9 : (Cond.initialized "DiaryHouse$Numbers") ∈ lw_tbl := tb_r (List.mem_of_getElem? (i := 9) (by decide +kernel))
theorem tb10 : (Cond.initialized "DiaryHouseModel") ∈ lw_tbl := tb_r (List.mem_of_getElem? (i := 10) (by decide +kernel))
theorem tb11 : (Cond.initialized "DiaryHouse$Person") ∈ lw_tbl := tb_r (List.mem_of_getElem? (i := 11) (by decide +kernel))
theorem tb12 : (Cond.initialized "jdk/internal/util/ArraysSupport") ∈ lw_tbl := tb_r (List.mem_of_getElem? (i := 12) (by decide +kernel))
theorem tb13 : (Cond.initialized "java/lang/Math") ∈ lw_tbl := tb_r (List.mem_of_getElem? (i := 13) (by decide +kernel))
theorem tb14 : (Cond.initialized "java/util/Arrays") ∈ lw_tbl := tb_r (List.mem_of_getElem? (i := 14) (by decide +kernel))
theorem tb16 : (Cond.initialized "java/util/Objects") ∈ lw_tbl := tb_r (List.mem_of_getElem? (i := 16) (by decide +kernel))
theorem tb17 : (Cond.initialized "jdk/internal/util/Preconditions") ∈ lw_tbl := tb_r (List.mem_of_getElem? (i := 17) (by decide +kernel))
theorem tb18 : (Cond.initialized "DiaryHouse$Line") ∈ lw_tbl := tb_r (List.mem_of_getElem? (i := 18) (by decide +kernel))
theorem tb23 : (Cond.initialized "DiaryHouse$Stop") ∈ lw_tbl := tb_r (List.mem_of_getElem? (i := 23) (by decide +kernel))
theorem tb24 : (Cond.initialized "java/lang/StringLatin1") ∈ lw_tbl := tb_r (List.mem_of_getElem? (i := 24) (by decide +kernel))
theorem tb25 : (Cond.initialized "java/lang/StringUTF16") ∈ lw_tbl := tb_r (List.mem_of_getElem? (i := 25) (by decide +kernel))
theorem tb26 : (Cond.initialized "java/lang/Character") ∈ lw_tbl := tb_r (List.mem_of_getElem? (i := 26) (by decide +kernel))
theorem tb27 : (Cond.initialized "DiaryHouse$Rule") ∈ lw_tbl := tb_r (List.mem_of_getElem? (i := 27) (by decide +kernel))
theorem tb28 : (Cond.initialized "DiaryHouse$Happening") ∈ lw_tbl := tb_r (List.mem_of_getElem? (i := 28) (by decide +kernel))
theorem tb29 : (Cond.initialized "DiaryHouse$Mark") ∈ lw_tbl := tb_r (List.mem_of_getElem? (i := 29) (by decide +kernel))
theorem tb30 : (Cond.initialized "java/lang/Integer") ∈ lw_tbl := tb_r (List.mem_of_getElem? (i := 30) (by decide +kernel))
theorem tb31 : (Cond.initialized "DiaryHouse$Question") ∈ lw_tbl := tb_r (List.mem_of_getElem? (i := 31) (by decide +kernel))
theorem tb32 : (Cond.classLink "DiaryHouseLaw" (8 : Nat) "DiaryHouse") ∈ lw_tbl := tb_r (List.mem_of_getElem? (i := 32) (by decide +kernel))
theorem tb34 : (Cond.methodLink "DiaryHouseLaw" (15 : Nat) ({ cls := "DiaryHouse", name := "<init>", desc := "()V" } : MethodName)) ∈ lw_tbl := tb_r (List.mem_of_getElem? (i := 34) (by decide +kernel))
theorem tb35 : (Cond.instanceMethod ({ cls := "DiaryHouse", name := "<init>", desc := "()V" } : MethodName)) ∈ lw_tbl := tb_r (List.mem_of_getElem? (i := 35) (by decide +kernel))
theorem tb36 : (Cond.code ({ cls := "DiaryHouse", name := "<init>", desc := "()V" } : MethodName) prog_1_method_1_code (1 : Nat) (Option.none : Option FieldType)) ∈ lw_tbl := tb_r (List.mem_of_getElem? (i := 36) (by decide +kernel))
theorem tb37 : (Cond.methodLink "DiaryHouse" (1 : Nat) ({ cls := "java/lang/Object", name := "<init>", desc := "()V" } : MethodName)) ∈ lw_tbl := tb_r (List.mem_of_getElem? (i := 37) (by decide +kernel))
theorem tb40 : (Cond.classLink "DiaryHouse" (7 : Nat) "java/util/ArrayList") ∈ lw_tbl := tb_r (List.mem_of_getElem? (i := 40) (by decide +kernel))
theorem tb42 : (Cond.methodLink "DiaryHouse" (9 : Nat) ({ cls := "java/util/ArrayList", name := "<init>", desc := "()V" } : MethodName)) ∈ lw_tbl := tb_r (List.mem_of_getElem? (i := 42) (by decide +kernel))
theorem tb43 : (Cond.instanceMethod ({ cls := "java/util/ArrayList", name := "<init>", desc := "()V" } : MethodName)) ∈ lw_tbl := tb_r (List.mem_of_getElem? (i := 43) (by decide +kernel))
theorem tb44 : (Cond.code ({ cls := "java/util/ArrayList", name := "<init>", desc := "()V" } : MethodName) prog_34_method_2_code (1 : Nat) (Option.none : Option FieldType)) ∈ lw_tbl := tb_r (List.mem_of_getElem? (i := 44) (by decide +kernel))
theorem tb45 : (Cond.methodLink "java/util/ArrayList" (1 : Nat) ({ cls := "java/util/AbstractList", name := "<init>", desc := "()V" } : MethodName)) ∈ lw_tbl := tb_r (List.mem_of_getElem? (i := 45) (by decide +kernel))
theorem tb46 : (Cond.instanceMethod ({ cls := "java/util/AbstractList", name := "<init>", desc := "()V" } : MethodName)) ∈ lw_tbl := tb_r (List.mem_of_getElem? (i := 46) (by decide +kernel))
theorem tb47 : (Cond.code ({ cls := "java/util/AbstractList", name := "<init>", desc := "()V" } : MethodName) prog_33_method_1_code (1 : Nat) (Option.none : Option FieldType)) ∈ lw_tbl := tb_r (List.mem_of_getElem? (i := 47) (by decide +kernel))
theorem tb48 : (Cond.methodLink "java/util/AbstractList" (1 : Nat) ({ cls := "java/util/AbstractCollection", name := "<init>", desc := "()V" } : MethodName)) ∈ lw_tbl := tb_r (List.mem_of_getElem? (i := 48) (by decide +kernel))
theorem tb49 : (Cond.instanceMethod ({ cls := "java/util/AbstractCollection", name := "<init>", desc := "()V" } : MethodName)) ∈ lw_tbl := tb_r (List.mem_of_getElem? (i := 49) (by decide +kernel))
theorem tb50 : (Cond.code ({ cls := "java/util/AbstractCollection", name := "<init>", desc := "()V" } : MethodName) prog_32_method_1_code (1 : Nat) (Option.none : Option FieldType)) ∈ lw_tbl := tb_r (List.mem_of_getElem? (i := 50) (by decide +kernel))
theorem tb51 : (Cond.methodLink "java/util/AbstractCollection" (1 : Nat) ({ cls := "java/lang/Object", name := "<init>", desc := "()V" } : MethodName)) ∈ lw_tbl := tb_r (List.mem_of_getElem? (i := 51) (by decide +kernel))
theorem tb54 : (Cond.fieldLink "java/util/ArrayList" (9 : Nat) "java/util/ArrayList" "elementData" "[Ljava/lang/Object;") ∈ lw_tbl := tb_r (List.mem_of_getElem? (i := 54) (by decide +kernel))
theorem tb55 : (Cond.fieldLink "java/util/ArrayList" (48 : Nat) "java/util/ArrayList" "size" "I") ∈ lw_tbl := tb_r (List.mem_of_getElem? (i := 55) (by decide +kernel))
theorem tb57 : (Cond.fieldLink "java/util/ArrayList" (63 : Nat) "java/util/ArrayList" "modCount" "I") ∈ lw_tbl := tb_r (List.mem_of_getElem? (i := 57) (by decide +kernel))
theorem tb58 : (Cond.sameField "java/util/ArrayList" "java/util/AbstractList" "modCount" "I") ∈ lw_tbl := tb_r (List.mem_of_getElem? (i := 58) (by decide +kernel))
theorem tb66 : (Cond.classLink "DiaryHouse" (34 : Nat) "DiaryHouse$Tape") ∈ lw_tbl := tb_r (List.mem_of_getElem? (i := 66) (by decide +kernel))
theorem tb68 : (Cond.methodLinkNest "DiaryHouse" (36 : Nat) ({ cls := "DiaryHouse$Tape", name := "<init>", desc := "()V" } : MethodName) "DiaryHouse") ∈ lw_tbl := tb_r (List.mem_of_getElem? (i := 68) (by decide +kernel))
theorem tb69 : (Cond.instanceMethod ({ cls := "DiaryHouse$Tape", name := "<init>", desc := "()V" } : MethodName)) ∈ lw_tbl := tb_r (List.mem_of_getElem? (i := 69) (by decide +kernel))
theorem tb70 : (Cond.code ({ cls := "DiaryHouse$Tape", name := "<init>", desc := "()V" } : MethodName) prog_11_method_1_code (1 : Nat) (Option.none : Option FieldType)) ∈ lw_tbl := tb_r (List.mem_of_getElem? (i := 70) (by decide +kernel))
theorem tb71 : (Cond.methodLink "DiaryHouse$Tape" (3 : Nat) ({ cls := "java/lang/Object", name := "<init>", desc := "()V" } : MethodName)) ∈ lw_tbl := tb_r (List.mem_of_getElem? (i := 71) (by decide +kernel))
theorem tb72 : (Cond.fieldLink "DiaryHouse$Tape" (11 : Nat) "DiaryHouse$Tape" "signs" "[C") ∈ lw_tbl := tb_r (List.mem_of_getElem? (i := 72) (by decide +kernel))
theorem tb73 : (Cond.fieldLink "DiaryHouse$Tape" (19 : Nat) "DiaryHouse$Tape" "size" "I") ∈ lw_tbl := tb_r (List.mem_of_getElem? (i := 73) (by decide +kernel))
theorem tb74 : (Cond.fieldLink "DiaryHouse$Tape" (32 : Nat) "DiaryHouse$Tape" "at" "I") ∈ lw_tbl := tb_r (List.mem_of_getElem? (i := 74) (by decide +kernel))
theorem tb75 : (Cond.fieldLink "DiaryHouse$Tape" (15 : Nat) "DiaryHouse$Tape" "codes" "[I") ∈ lw_tbl := tb_r (List.mem_of_getElem? (i := 75) (by decide +kernel))
theorem tb76 : (Cond.fieldLink "DiaryHouse$Tape" (23 : Nat) "DiaryHouse$Tape" "codesSize" "I") ∈ lw_tbl := tb_r (List.mem_of_getElem? (i := 76) (by decide +kernel))
theorem tb90 : (Cond.classLink "DiaryHouse" (41 : Nat) "DiaryHouse$Table") ∈ lw_tbl := tb_r (List.mem_of_getElem? (i := 90) (by decide +kernel))
theorem tb92 : (Cond.methodLinkNest "DiaryHouse" (43 : Nat) ({ cls := "DiaryHouse$Table", name := "<init>", desc := "()V" } : MethodName) "DiaryHouse") ∈ lw_tbl := tb_r (List.mem_of_getElem? (i := 92) (by decide +kernel))
theorem tb93 : (Cond.instanceMethod ({ cls := "DiaryHouse$Table", name := "<init>", desc := "()V" } : MethodName)) ∈ lw_tbl := tb_r (List.mem_of_getElem? (i := 93) (by decide +kernel))
theorem tb94 : (Cond.code ({ cls := "DiaryHouse$Table", name := "<init>", desc := "()V" } : MethodName) prog_10_method_1_code (1 : Nat) (Option.none : Option FieldType)) ∈ lw_tbl := tb_r (List.mem_of_getElem? (i := 94) (by decide +kernel))
theorem tb95 : (Cond.methodLink "DiaryHouse$Table" (3 : Nat) ({ cls := "java/lang/Object", name := "<init>", desc := "()V" } : MethodName)) ∈ lw_tbl := tb_r (List.mem_of_getElem? (i := 95) (by decide +kernel))
theorem tb96 : (Cond.fieldLink "DiaryHouse$Table" (11 : Nat) "DiaryHouse$Table" "from" "[I") ∈ lw_tbl := tb_r (List.mem_of_getElem? (i := 96) (by decide +kernel))
theorem tb97 : (Cond.fieldLink "DiaryHouse$Table" (15 : Nat) "DiaryHouse$Table" "to" "[I") ∈ lw_tbl := tb_r (List.mem_of_getElem? (i := 97) (by decide +kernel))
theorem tb98 : (Cond.fieldLink "DiaryHouse$Table" (30 : Nat) "DiaryHouse$Table" "watchers" "I") ∈ lw_tbl := tb_r (List.mem_of_getElem? (i := 98) (by decide +kernel))
theorem tb99 : (Cond.fieldLink "DiaryHouse$Table" (18 : Nat) "DiaryHouse$Table" "places" "[I") ∈ lw_tbl := tb_r (List.mem_of_getElem? (i := 99) (by decide +kernel))
theorem tb100 : (Cond.fieldLink "DiaryHouse$Table" (21 : Nat) "DiaryHouse$Table" "hours" "[I") ∈ lw_tbl := tb_r (List.mem_of_getElem? (i := 100) (by decide +kernel))
theorem tb101 : (Cond.fieldLink "DiaryHouse$Table" (34 : Nat) "DiaryHouse$Table" "wanted" "I") ∈ lw_tbl := tb_r (List.mem_of_getElem? (i := 101) (by decide +kernel))
theorem tb102 : (Cond.fieldLink "DiaryHouse$Table" (24 : Nat) "DiaryHouse$Table" "tried" "[I") ∈ lw_tbl := tb_r (List.mem_of_getElem? (i := 102) (by decide +kernel))
theorem tb103 : (Cond.fieldLink "DiaryHouse$Table" (27 : Nat) "DiaryHouse$Table" "best" "[I") ∈ lw_tbl := tb_r (List.mem_of_getElem? (i := 103) (by decide +kernel))
theorem tb104 : (Cond.fieldLink "DiaryHouse$Table" (37 : Nat) "DiaryHouse$Table" "seen" "I") ∈ lw_tbl := tb_r (List.mem_of_getElem? (i := 104) (by decide +kernel))
theorem tb124 : (Cond.classLink "DiaryHouse" (48 : Nat) "DiaryHouse$Turn") ∈ lw_tbl := tb_r (List.mem_of_getElem? (i := 124) (by decide +kernel))
theorem tb126 : (Cond.methodLinkNest "DiaryHouse" (50 : Nat) ({ cls := "DiaryHouse$Turn", name := "<init>", desc := "()V" } : MethodName) "DiaryHouse") ∈ lw_tbl := tb_r (List.mem_of_getElem? (i := 126) (by decide +kernel))
theorem tb127 : (Cond.instanceMethod ({ cls := "DiaryHouse$Turn", name := "<init>", desc := "()V" } : MethodName)) ∈ lw_tbl := tb_r (List.mem_of_getElem? (i := 127) (by decide +kernel))
theorem tb128 : (Cond.code ({ cls := "DiaryHouse$Turn", name := "<init>", desc := "()V" } : MethodName) prog_12_method_1_code (1 : Nat) (Option.none : Option FieldType)) ∈ lw_tbl := tb_r (List.mem_of_getElem? (i := 128) (by decide +kernel))
theorem tb129 : (Cond.methodLink "DiaryHouse$Turn" (3 : Nat) ({ cls := "java/lang/Object", name := "<init>", desc := "()V" } : MethodName)) ∈ lw_tbl := tb_r (List.mem_of_getElem? (i := 129) (by decide +kernel))
theorem tb130 : (Cond.fieldLink "DiaryHouse$Turn" (9 : Nat) "DiaryHouse$Turn" "days" "[I") ∈ lw_tbl := tb_r (List.mem_of_getElem? (i := 130) (by decide +kernel))
theorem tb131 : (Cond.fieldLink "DiaryHouse$Turn" (15 : Nat) "DiaryHouse$Turn" "moods" "[I") ∈ lw_tbl := tb_r (List.mem_of_getElem? (i := 131) (by decide +kernel))
theorem tb132 : (Cond.fieldLink "DiaryHouse$Turn" (18 : Nat) "DiaryHouse$Turn" "size" "I") ∈ lw_tbl := tb_r (List.mem_of_getElem? (i := 132) (by decide +kernel))
theorem tb143 : (Cond.methodLink "DiaryHouse" (65 : Nat) ({ cls := "java/lang/String", name := "length", desc := "()I" } : MethodName)) ∈ lw_tbl := tb_r (List.mem_of_getElem? (i := 143) (by decide +kernel))
theorem tb144 : (Cond.instanceMethod ({ cls := "java/lang/String", name := "length", desc := "()I" } : MethodName)) ∈ lw_tbl := tb_r (List.mem_of_getElem? (i := 144) (by decide +kernel))
theorem tb145 : (Cond.selects "java/lang/String" ({ cls := "java/lang/String", name := "length", desc := "()I" } : MethodName) ({ cls := "java/lang/String", name := "length", desc := "()I" } : MethodName)) ∈ lw_tbl := tb_r (List.mem_of_getElem? (i := 145) (by decide +kernel))
theorem tb146 : (Cond.code ({ cls := "java/lang/String", name := "length", desc := "()I" } : MethodName) prog_25_method_54_code (1 : Nat) (Option.some FieldType.int)) ∈ lw_tbl := tb_r (List.mem_of_getElem? (i := 146) (by decide +kernel))
theorem tb147 : (Cond.methodLink "java/lang/String" (335 : Nat) ({ cls := "java/lang/String", name := "coder", desc := "()B" } : MethodName)) ∈ lw_tbl := tb_r (List.mem_of_getElem? (i := 147) (by decide +kernel))
theorem tb148 : (Cond.instanceMethod ({ cls := "java/lang/String", name := "coder", desc := "()B" } : MethodName)) ∈ lw_tbl := tb_r (List.mem_of_getElem? (i := 148) (by decide +kernel))
theorem tb149 : (Cond.selects "java/lang/String" ({ cls := "java/lang/String", name := "coder", desc := "()B" } : MethodName) ({ cls := "java/lang/String", name := "coder", desc := "()B" } : MethodName)) ∈ lw_tbl := tb_r (List.mem_of_getElem? (i := 149) (by decide +kernel))
theorem tb150 : (Cond.code ({ cls := "java/lang/String", name := "coder", desc := "()B" } : MethodName) prog_25_method_152_code (1 : Nat) (Option.some FieldType.byte)) ∈ lw_tbl := tb_r (List.mem_of_getElem? (i := 150) (by decide +kernel))
theorem tb153 : (Cond.classLink "DiaryHouse" (75 : Nat) "DiaryHouse$Numbers") ∈ lw_tbl := tb_r (List.mem_of_getElem? (i := 153) (by decide +kernel))
theorem tb155 : (Cond.methodLinkNest "DiaryHouse" (77 : Nat) ({ cls := "DiaryHouse$Numbers", name := "<init>", desc := "()V" } : MethodName) "DiaryHouse") ∈ lw_tbl := tb_r (List.mem_of_getElem? (i := 155) (by decide +kernel))
theorem tb156 : (Cond.instanceMethod ({ cls := "DiaryHouse$Numbers", name := "<init>", desc := "()V" } : MethodName)) ∈ lw_tbl := tb_r (List.mem_of_getElem? (i := 156) (by decide +kernel))
theorem tb157 : (Cond.code ({ cls := "DiaryHouse$Numbers", name := "<init>", desc := "()V" } : MethodName) prog_5_method_1_code (1 : Nat) (Option.none : Option FieldType)) ∈ lw_tbl := tb_r (List.mem_of_getElem? (i := 157) (by decide +kernel))
theorem tb158 : (Cond.methodLink "DiaryHouse$Numbers" (1 : Nat) ({ cls := "java/lang/Object", name := "<init>", desc := "()V" } : MethodName)) ∈ lw_tbl := tb_r (List.mem_of_getElem? (i := 158) (by decide +kernel))
theorem tb159 : (Cond.fieldLink "DiaryHouse$Numbers" (9 : Nat) "DiaryHouse$Numbers" "room" "[I") ∈ lw_tbl := tb_r (List.mem_of_getElem? (i := 159) (by decide +kernel))
theorem tb160 : (Cond.fieldLink "DiaryHouse$Numbers" (15 : Nat) "DiaryHouse$Numbers" "size" "I") ∈ lw_tbl := tb_r (List.mem_of_getElem? (i := 160) (by decide +kernel))
theorem tb167 : (Cond.fieldLink "DiaryHouse" (88 : Nat) "DiaryHouse" "now" "I") ∈ lw_tbl := tb_r (List.mem_of_getElem? (i := 167) (by decide +kernel))
theorem tb168 : (Cond.fieldLink "DiaryHouse" (10 : Nat) "DiaryHouse" "persons" "Ljava/util/ArrayList;") ∈ lw_tbl := tb_r (List.mem_of_getElem? (i := 168) (by decide +kernel))
theorem tb169 : (Cond.fieldLink "DiaryHouse" (16 : Nat) "DiaryHouse" "lines" "Ljava/util/ArrayList;") ∈ lw_tbl := tb_r (List.mem_of_getElem? (i := 169) (by decide +kernel))
theorem tb170 : (Cond.fieldLink "DiaryHouse" (19 : Nat) "DiaryHouse" "stops" "Ljava/util/ArrayList;") ∈ lw_tbl := tb_r (List.mem_of_getElem? (i := 170) (by decide +kernel))
theorem tb171 : (Cond.fieldLink "DiaryHouse" (22 : Nat) "DiaryHouse" "rules" "Ljava/util/ArrayList;") ∈ lw_tbl := tb_r (List.mem_of_getElem? (i := 171) (by decide +kernel))
theorem tb172 : (Cond.fieldLink "DiaryHouse" (25 : Nat) "DiaryHouse" "happenings" "Ljava/util/ArrayList;") ∈ lw_tbl := tb_r (List.mem_of_getElem? (i := 172) (by decide +kernel))
theorem tb173 : (Cond.fieldLink "DiaryHouse" (28 : Nat) "DiaryHouse" "marks" "Ljava/util/ArrayList;") ∈ lw_tbl := tb_r (List.mem_of_getElem? (i := 173) (by decide +kernel))
theorem tb174 : (Cond.fieldLink "DiaryHouse" (31 : Nat) "DiaryHouse" "questions" "Ljava/util/ArrayList;") ∈ lw_tbl := tb_r (List.mem_of_getElem? (i := 174) (by decide +kernel))
theorem tb175 : (Cond.fieldLink "DiaryHouse" (37 : Nat) "DiaryHouse" "tape" "LDiaryHouse$Tape;") ∈ lw_tbl := tb_r (List.mem_of_getElem? (i := 175) (by decide +kernel))
theorem tb176 : (Cond.fieldLink "DiaryHouse" (44 : Nat) "DiaryHouse" "plan" "LDiaryHouse$Table;") ∈ lw_tbl := tb_r (List.mem_of_getElem? (i := 176) (by decide +kernel))
theorem tb177 : (Cond.fieldLink "DiaryHouse" (51 : Nat) "DiaryHouse" "turning" "LDiaryHouse$Turn;") ∈ lw_tbl := tb_r (List.mem_of_getElem? (i := 177) (by decide +kernel))
theorem tb178 : (Cond.fieldLink "DiaryHouse" (57 : Nat) "DiaryHouse" "people" "[[I") ∈ lw_tbl := tb_r (List.mem_of_getElem? (i := 178) (by decide +kernel))
theorem tb179 : (Cond.fieldLink "DiaryHouse" (60 : Nat) "DiaryHouse" "markRows" "[[I") ∈ lw_tbl := tb_r (List.mem_of_getElem? (i := 179) (by decide +kernel))
theorem tb180 : (Cond.fieldLink "DiaryHouse" (71 : Nat) "DiaryHouse" "letters" "[I") ∈ lw_tbl := tb_r (List.mem_of_getElem? (i := 180) (by decide +kernel))
theorem tb181 : (Cond.fieldLink "DiaryHouse" (78 : Nat) "DiaryHouse" "numbers" "LDiaryHouse$Numbers;") ∈ lw_tbl := tb_r (List.mem_of_getElem? (i := 181) (by decide +kernel))
theorem tb182 : (Cond.fieldLink "DiaryHouse" (82 : Nat) "DiaryHouse" "picks" "[I") ∈ lw_tbl := tb_r (List.mem_of_getElem? (i := 182) (by decide +kernel))
theorem tb183 : (Cond.fieldLink "DiaryHouse" (85 : Nat) "DiaryHouse" "drawn" "[I") ∈ lw_tbl := tb_r (List.mem_of_getElem? (i := 183) (by decide +kernel))
theorem tb219 : (Cond.methodLink "DiaryHouseLaw" (19 : Nat) ({ cls := "DiaryHouse", name := "days", desc := "(I)I" } : MethodName)) ∈ lw_tbl := tb_r (List.mem_of_getElem? (i := 219) (by decide +kernel))
theorem tb220 : (Cond.instanceMethod ({ cls := "DiaryHouse", name := "days", desc := "(I)I" } : MethodName)) ∈ lw_tbl := tb_r (List.mem_of_getElem? (i := 220) (by decide +kernel))
theorem tb221 : (Cond.selects "DiaryHouse" ({ cls := "DiaryHouse", name := "days", desc := "(I)I" } : MethodName) ({ cls := "DiaryHouse", name := "days", desc := "(I)I" } : MethodName)) ∈ lw_tbl := tb_r (List.mem_of_getElem? (i := 221) (by decide +kernel))
theorem tb222 : (Cond.code ({ cls := "DiaryHouse", name := "days", desc := "(I)I" } : MethodName) prog_1_method_2_code (2 : Nat) (Option.some FieldType.int)) ∈ lw_tbl := tb_r (List.mem_of_getElem? (i := 222) (by decide +kernel))
theorem tb223 : (Cond.methodLink "DiaryHouse" (92 : Nat) ({ cls := "DiaryHouse", name := "isWithin", desc := "(III)Z" } : MethodName)) ∈ lw_tbl := tb_r (List.mem_of_getElem? (i := 223) (by decide +kernel))
theorem tb224 : (Cond.static ({ cls := "DiaryHouse", name := "isWithin", desc := "(III)Z" } : MethodName)) ∈ lw_tbl := tb_r (List.mem_of_getElem? (i := 224) (by decide +kernel))
theorem tb225 : (Cond.code ({ cls := "DiaryHouse", name := "isWithin", desc := "(III)Z" } : MethodName) prog_1_method_73_code (3 : Nat) (Option.some FieldType.boolean)) ∈ lw_tbl := tb_r (List.mem_of_getElem? (i := 225) (by decide +kernel))
theorem tb226 : (Cond.methodLink "DiaryHouseLaw" (24 : Nat) ({ cls := "DiaryHouse", name := "person", desc := "(III)I" } : MethodName)) ∈ lw_tbl := tb_r (List.mem_of_getElem? (i := 226) (by decide +kernel))
theorem tb227 : (Cond.instanceMethod ({ cls := "DiaryHouse", name := "person", desc := "(III)I" } : MethodName)) ∈ lw_tbl := tb_r (List.mem_of_getElem? (i := 227) (by decide +kernel))
theorem tb228 : (Cond.selects "DiaryHouse" ({ cls := "DiaryHouse", name := "person", desc := "(III)I" } : MethodName) ({ cls := "DiaryHouse", name := "person", desc := "(III)I" } : MethodName)) ∈ lw_tbl := tb_r (List.mem_of_getElem? (i := 228) (by decide +kernel))
theorem tb229 : (Cond.code ({ cls := "DiaryHouse", name := "person", desc := "(III)I" } : MethodName) prog_1_method_3_code (4 : Nat) (Option.some FieldType.int)) ∈ lw_tbl := tb_r (List.mem_of_getElem? (i := 229) (by decide +kernel))
theorem tb230 : (Cond.methodLink "DiaryHouse" (96 : Nat) ({ cls := "DiaryHouse", name := "isPlace", desc := "(I)Z" } : MethodName)) ∈ lw_tbl := tb_r (List.mem_of_getElem? (i := 230) (by decide +kernel))
theorem tb231 : (Cond.static ({ cls := "DiaryHouse", name := "isPlace", desc := "(I)Z" } : MethodName)) ∈ lw_tbl := tb_r (List.mem_of_getElem? (i := 231) (by decide +kernel))
theorem tb232 : (Cond.code ({ cls := "DiaryHouse", name := "isPlace", desc := "(I)Z" } : MethodName) prog_1_method_79_code (1 : Nat) (Option.some FieldType.boolean)) ∈ lw_tbl := tb_r (List.mem_of_getElem? (i := 232) (by decide +kernel))
theorem tb233 : (Cond.methodLink "DiaryHouse" (100 : Nat) ({ cls := "java/util/ArrayList", name := "size", desc := "()I" } : MethodName)) ∈ lw_tbl := tb_r (List.mem_of_getElem? (i := 233) (by decide +kernel))
theorem tb234 : (Cond.instanceMethod ({ cls := "java/util/ArrayList", name := "size", desc := "()I" } : MethodName)) ∈ lw_tbl := tb_r (List.mem_of_getElem? (i := 234) (by decide +kernel))
theorem tb235 : (Cond.selects "java/util/ArrayList" ({ cls := "java/util/ArrayList", name := "size", desc := "()I" } : MethodName) ({ cls := "java/util/ArrayList", name := "size", desc := "()I" } : MethodName)) ∈ lw_tbl := tb_r (List.mem_of_getElem? (i := 235) (by decide +kernel))
theorem tb236 : (Cond.code ({ cls := "java/util/ArrayList", name := "size", desc := "()I" } : MethodName) prog_34_method_8_code (1 : Nat) (Option.some FieldType.int)) ∈ lw_tbl := tb_r (List.mem_of_getElem? (i := 236) (by decide +kernel))
theorem tb237 : (Cond.classLink "DiaryHouse" (103 : Nat) "DiaryHouse$Person") ∈ lw_tbl := tb_r (List.mem_of_getElem? (i := 237) (by decide +kernel))
theorem tb239 : (Cond.methodLink "DiaryHouse" (105 : Nat) ({ cls := "DiaryHouse$Person", name := "<init>", desc := "(IIII)V" } : MethodName)) ∈ lw_tbl := tb_r (List.mem_of_getElem? (i := 239) (by decide +kernel))
theorem tb240 : (Cond.instanceMethod ({ cls := "DiaryHouse$Person", name := "<init>", desc := "(IIII)V" } : MethodName)) ∈ lw_tbl := tb_r (List.mem_of_getElem? (i := 240) (by decide +kernel))
theorem tb241 : (Cond.code ({ cls := "DiaryHouse$Person", name := "<init>", desc := "(IIII)V" } : MethodName) prog_6_method_1_code (5 : Nat) (Option.none : Option FieldType)) ∈ lw_tbl := tb_r (List.mem_of_getElem? (i := 241) (by decide +kernel))
theorem tb242 : (Cond.methodLink "DiaryHouse$Person" (1 : Nat) ({ cls := "java/lang/Object", name := "<init>", desc := "()V" } : MethodName)) ∈ lw_tbl := tb_r (List.mem_of_getElem? (i := 242) (by decide +kernel))
theorem tb243 : (Cond.fieldLink "DiaryHouse$Person" (7 : Nat) "DiaryHouse$Person" "number" "I") ∈ lw_tbl := tb_r (List.mem_of_getElem? (i := 243) (by decide +kernel))
theorem tb244 : (Cond.fieldLinkNest "DiaryHouse$Line" (32 : Nat) "DiaryHouse$Person" "number" "I" "DiaryHouse") ∈ lw_tbl := tb_r (List.mem_of_getElem? (i := 244) (by decide +kernel))
theorem tb245 : (Cond.fieldLinkNest "DiaryHouse" (309 : Nat) "DiaryHouse$Person" "number" "I" "DiaryHouse") ∈ lw_tbl := tb_r (List.mem_of_getElem? (i := 245) (by decide +kernel))
theorem tb246 : (Cond.fieldLink "DiaryHouse$Person" (13 : Nat) "DiaryHouse$Person" "place" "I") ∈ lw_tbl := tb_r (List.mem_of_getElem? (i := 246) (by decide +kernel))
theorem tb247 : (Cond.fieldLinkNest "DiaryHouse" (225 : Nat) "DiaryHouse$Person" "place" "I" "DiaryHouse") ∈ lw_tbl := tb_r (List.mem_of_getElem? (i := 247) (by decide +kernel))
theorem tb248 : (Cond.fieldLink "DiaryHouse$Person" (16 : Nat) "DiaryHouse$Person" "age" "I") ∈ lw_tbl := tb_r (List.mem_of_getElem? (i := 248) (by decide +kernel))
theorem tb249 : (Cond.fieldLinkNest "DiaryHouse" (222 : Nat) "DiaryHouse$Person" "age" "I" "DiaryHouse") ∈ lw_tbl := tb_r (List.mem_of_getElem? (i := 249) (by decide +kernel))
theorem tb250 : (Cond.fieldLink "DiaryHouse$Person" (19 : Nat) "DiaryHouse$Person" "work" "I") ∈ lw_tbl := tb_r (List.mem_of_getElem? (i := 250) (by decide +kernel))
theorem tb251 : (Cond.fieldLinkNest "DiaryHouse" (228 : Nat) "DiaryHouse$Person" "work" "I" "DiaryHouse") ∈ lw_tbl := tb_r (List.mem_of_getElem? (i := 251) (by decide +kernel))
theorem tb252 : (Cond.fieldLink "DiaryHouse$Person" (22 : Nat) "DiaryHouse$Person" "stratum" "I") ∈ lw_tbl := tb_r (List.mem_of_getElem? (i := 252) (by decide +kernel))
theorem tb264 : (Cond.methodLink "DiaryHouse" (108 : Nat) ({ cls := "java/util/ArrayList", name := "add", desc := "(Ljava/lang/Object;)Z" } : MethodName)) ∈ lw_tbl := tb_r (List.mem_of_getElem? (i := 264) (by decide +kernel))
theorem tb265 : (Cond.instanceMethod ({ cls := "java/util/ArrayList", name := "add", desc := "(Ljava/lang/Object;)Z" } : MethodName)) ∈ lw_tbl := tb_r (List.mem_of_getElem? (i := 265) (by decide +kernel))
theorem tb266 : (Cond.selects "java/util/ArrayList" ({ cls := "java/util/ArrayList", name := "add", desc := "(Ljava/lang/Object;)Z" } : MethodName) ({ cls := "java/util/ArrayList", name := "add", desc := "(Ljava/lang/Object;)Z" } : MethodName)) ∈ lw_tbl := tb_r (List.mem_of_getElem? (i := 266) (by decide +kernel))
theorem tb267 : (Cond.code ({ cls := "java/util/ArrayList", name := "add", desc := "(Ljava/lang/Object;)Z" } : MethodName) prog_34_method_25_code (2 : Nat) (Option.some FieldType.boolean)) ∈ lw_tbl := tb_r (List.mem_of_getElem? (i := 267) (by decide +kernel))
theorem tb268 : (Cond.methodLink "java/util/ArrayList" (131 : Nat) ({ cls := "java/util/ArrayList", name := "add", desc := "(Ljava/lang/Object;[Ljava/lang/Object;I)V" } : MethodName)) ∈ lw_tbl := tb_r (List.mem_of_getElem? (i := 268) (by decide +kernel))
theorem tb270 : (Cond.instanceMethod ({ cls := "java/util/ArrayList", name := "add", desc := "(Ljava/lang/Object;[Ljava/lang/Object;I)V" } : MethodName)) ∈ lw_tbl := tb_r (List.mem_of_getElem? (i := 270) (by decide +kernel))
theorem tb271 : (Cond.code ({ cls := "java/util/ArrayList", name := "add", desc := "(Ljava/lang/Object;[Ljava/lang/Object;I)V" } : MethodName) prog_34_method_24_code (4 : Nat) (Option.none : Option FieldType)) ∈ lw_tbl := tb_r (List.mem_of_getElem? (i := 271) (by decide +kernel))
theorem tb272 : (Cond.methodLink "java/util/ArrayList" (129 : Nat) ({ cls := "java/util/ArrayList", name := "grow", desc := "()[Ljava/lang/Object;" } : MethodName)) ∈ lw_tbl := tb_r (List.mem_of_getElem? (i := 272) (by decide +kernel))
theorem tb274 : (Cond.instanceMethod ({ cls := "java/util/ArrayList", name := "grow", desc := "()[Ljava/lang/Object;" } : MethodName)) ∈ lw_tbl := tb_r (List.mem_of_getElem? (i := 274) (by decide +kernel))
theorem tb275 : (Cond.code ({ cls := "java/util/ArrayList", name := "grow", desc := "()[Ljava/lang/Object;" } : MethodName) prog_34_method_7_code (1 : Nat) (Option.some (FieldType.array (FieldType.object "java/lang/Object")))) ∈ lw_tbl := tb_r (List.mem_of_getElem? (i := 275) (by decide +kernel))
theorem tb276 : (Cond.methodLink "java/util/ArrayList" (69 : Nat) ({ cls := "java/util/ArrayList", name := "grow", desc := "(I)[Ljava/lang/Object;" } : MethodName)) ∈ lw_tbl := tb_r (List.mem_of_getElem? (i := 276) (by decide +kernel))
theorem tb278 : (Cond.instanceMethod ({ cls := "java/util/ArrayList", name := "grow", desc := "(I)[Ljava/lang/Object;" } : MethodName)) ∈ lw_tbl := tb_r (List.mem_of_getElem? (i := 278) (by decide +kernel))
theorem tb279 : (Cond.code ({ cls := "java/util/ArrayList", name := "grow", desc := "(I)[Ljava/lang/Object;" } : MethodName) prog_34_method_6_code (4 : Nat) (Option.some (FieldType.array (FieldType.object "java/lang/Object")))) ∈ lw_tbl := tb_r (List.mem_of_getElem? (i := 279) (by decide +kernel))
theorem tb280 : (Cond.methodLink "java/util/ArrayList" (73 : Nat) ({ cls := "jdk/internal/util/ArraysSupport", name := "newLength", desc := "(III)I" } : MethodName)) ∈ lw_tbl := tb_r (List.mem_of_getElem? (i := 280) (by decide +kernel))
theorem tb281 : (Cond.static ({ cls := "jdk/internal/util/ArraysSupport", name := "newLength", desc := "(III)I" } : MethodName)) ∈ lw_tbl := tb_r (List.mem_of_getElem? (i := 281) (by decide +kernel))
theorem tb282 : (Cond.code ({ cls := "jdk/internal/util/ArraysSupport", name := "newLength", desc := "(III)I" } : MethodName) prog_42_method_27_code (4 : Nat) (Option.some FieldType.int)) ∈ lw_tbl := tb_r (List.mem_of_getElem? (i := 282) (by decide +kernel))
theorem tb283 : (Cond.methodLink "jdk/internal/util/ArraysSupport" (194 : Nat) ({ cls := "java/lang/Math", name := "max", desc := "(II)I" } : MethodName)) ∈ lw_tbl := tb_r (List.mem_of_getElem? (i := 283) (by decide +kernel))
theorem tb284 : (Cond.static ({ cls := "java/lang/Math", name := "max", desc := "(II)I" } : MethodName)) ∈ lw_tbl := tb_r (List.mem_of_getElem? (i := 284) (by decide +kernel))
theorem tb285 : (Cond.code ({ cls := "java/lang/Math", name := "max", desc := "(II)I" } : MethodName) prog_23_method_65_code (2 : Nat) (Option.some FieldType.int)) ∈ lw_tbl := tb_r (List.mem_of_getElem? (i := 285) (by decide +kernel))
theorem tb286 : (Cond.constant "jdk/internal/util/ArraysSupport" (200 : Nat) (2147483639 : Int32)) ∈ lw_tbl := tb_r (List.mem_of_getElem? (i := 286) (by decide +kernel))
theorem tb287 : (Cond.methodLink "jdk/internal/util/ArraysSupport" (201 : Nat) ({ cls := "jdk/internal/util/ArraysSupport", name := "hugeLength", desc := "(II)I" } : MethodName)) ∈ lw_tbl := tb_r (List.mem_of_getElem? (i := 287) (by decide +kernel))
theorem tb288 : (Cond.static ({ cls := "jdk/internal/util/ArraysSupport", name := "hugeLength", desc := "(II)I" } : MethodName)) ∈ lw_tbl := tb_r (List.mem_of_getElem? (i := 288) (by decide +kernel))
theorem tb289 : (Cond.code ({ cls := "jdk/internal/util/ArraysSupport", name := "hugeLength", desc := "(II)I" } : MethodName) prog_42_method_28_code (3 : Nat) (Option.some FieldType.int)) ∈ lw_tbl := tb_r (List.mem_of_getElem? (i := 289) (by decide +kernel))
theorem tb290 : (Cond.methodLink "java/util/ArrayList" (66 : Nat) ({ cls := "java/util/Arrays", name := "copyOf", desc := "([Ljava/lang/Object;I)[Ljava/lang/Object;" } : MethodName)) ∈ lw_tbl := tb_r (List.mem_of_getElem? (i := 290) (by decide +kernel))
theorem tb291 : (Cond.static ({ cls := "java/util/Arrays", name := "copyOf", desc := "([Ljava/lang/Object;I)[Ljava/lang/Object;" } : MethodName)) ∈ lw_tbl := tb_r (List.mem_of_getElem? (i := 291) (by decide +kernel))
theorem tb292 : (Cond.code ({ cls := "java/util/Arrays", name := "copyOf", desc := "([Ljava/lang/Object;I)[Ljava/lang/Object;" } : MethodName) prog_35_method_119_code (2 : Nat) (Option.some (FieldType.array (FieldType.object "java/lang/Object")))) ∈ lw_tbl := tb_r (List.mem_of_getElem? (i := 292) (by decide +kernel))
theorem tb293 : (Cond.methodLink "java/util/Arrays" (86 : Nat) ({ cls := "java/lang/Object", name := "getClass", desc := "()Ljava/lang/Class;" } : MethodName)) ∈ lw_tbl := tb_r (List.mem_of_getElem? (i := 293) (by decide +kernel))
theorem tb312 : (Cond.methodLink "java/util/Arrays" (300 : Nat) ({ cls := "java/util/Arrays", name := "copyOf", desc := "([Ljava/lang/Object;ILjava/lang/Class;)[Ljava/lang/Object;" } : MethodName)) ∈ lw_tbl := tb_r (List.mem_of_getElem? (i := 312) (by decide +kernel))
theorem tb313 : (Cond.static ({ cls := "java/util/Arrays", name := "copyOf", desc := "([Ljava/lang/Object;ILjava/lang/Class;)[Ljava/lang/Object;" } : MethodName)) ∈ lw_tbl := tb_r (List.mem_of_getElem? (i := 313) (by decide +kernel))
theorem tb314 : (Cond.code ({ cls := "java/util/Arrays", name := "copyOf", desc := "([Ljava/lang/Object;ILjava/lang/Class;)[Ljava/lang/Object;" } : MethodName) prog_35_method_120_code (4 : Nat) (Option.some (FieldType.array (FieldType.object "java/lang/Object")))) ∈ lw_tbl := tb_r (List.mem_of_getElem? (i := 314) (by decide +kernel))
theorem tb315 : (Cond.classLink "java/util/Arrays" (110 : Nat) "[Ljava/lang/Object;") ∈ lw_tbl := tb_r (List.mem_of_getElem? (i := 315) (by decide +kernel))
theorem tb318 : (Cond.methodLink "java/util/Arrays" (304 : Nat) ({ cls := "java/lang/Math", name := "min", desc := "(II)I" } : MethodName)) ∈ lw_tbl := tb_r (List.mem_of_getElem? (i := 318) (by decide +kernel))
theorem tb319 : (Cond.static ({ cls := "java/lang/Math", name := "min", desc := "(II)I" } : MethodName)) ∈ lw_tbl := tb_r (List.mem_of_getElem? (i := 319) (by decide +kernel))
theorem tb320 : (Cond.code ({ cls := "java/lang/Math", name := "min", desc := "(II)I" } : MethodName) prog_23_method_69_code (2 : Nat) (Option.some FieldType.int)) ∈ lw_tbl := tb_r (List.mem_of_getElem? (i := 320) (by decide +kernel))
theorem tb321 : (Cond.methodLink "java/util/Arrays" (150 : Nat) ({ cls := "java/lang/System", name := "arraycopy", desc := "(Ljava/lang/Object;ILjava/lang/Object;II)V" } : MethodName)) ∈ lw_tbl := tb_r (List.mem_of_getElem? (i := 321) (by decide +kernel))
theorem tb324 : (Cond.methodLink "java/util/ArrayList" (79 : Nat) ({ cls := "java/lang/Math", name := "max", desc := "(II)I" } : MethodName)) ∈ lw_tbl := tb_r (List.mem_of_getElem? (i := 324) (by decide +kernel))
theorem tb326 : (Cond.methodLink "DiaryHouseLaw" (29 : Nat) ({ cls := "DiaryHouse", name := "line", desc := "(IIIIII)I" } : MethodName)) ∈ lw_tbl := tb_r (List.mem_of_getElem? (i := 326) (by decide +kernel))
theorem tb327 : (Cond.instanceMethod ({ cls := "DiaryHouse", name := "line", desc := "(IIIIII)I" } : MethodName)) ∈ lw_tbl := tb_r (List.mem_of_getElem? (i := 327) (by decide +kernel))
theorem tb328 : (Cond.selects "DiaryHouse" ({ cls := "DiaryHouse", name := "line", desc := "(IIIIII)I" } : MethodName) ({ cls := "DiaryHouse", name := "line", desc := "(IIIIII)I" } : MethodName)) ∈ lw_tbl := tb_r (List.mem_of_getElem? (i := 328) (by decide +kernel))
theorem tb329 : (Cond.code ({ cls := "DiaryHouse", name := "line", desc := "(IIIIII)I" } : MethodName) prog_1_method_4_code (7 : Nat) (Option.some FieldType.int)) ∈ lw_tbl := tb_r (List.mem_of_getElem? (i := 329) (by decide +kernel))
theorem tb330 : (Cond.methodLink "DiaryHouse" (112 : Nat) ({ cls := "DiaryHouse", name := "isPerson", desc := "(I)Z" } : MethodName)) ∈ lw_tbl := tb_r (List.mem_of_getElem? (i := 330) (by decide +kernel))
theorem tb332 : (Cond.instanceMethod ({ cls := "DiaryHouse", name := "isPerson", desc := "(I)Z" } : MethodName)) ∈ lw_tbl := tb_r (List.mem_of_getElem? (i := 332) (by decide +kernel))
theorem tb333 : (Cond.code ({ cls := "DiaryHouse", name := "isPerson", desc := "(I)Z" } : MethodName) prog_1_method_76_code (2 : Nat) (Option.some FieldType.boolean)) ∈ lw_tbl := tb_r (List.mem_of_getElem? (i := 333) (by decide +kernel))
theorem tb334 : (Cond.methodLink "DiaryHouse" (115 : Nat) ({ cls := "DiaryHouse", name := "isSort", desc := "(I)Z" } : MethodName)) ∈ lw_tbl := tb_r (List.mem_of_getElem? (i := 334) (by decide +kernel))
theorem tb335 : (Cond.static ({ cls := "DiaryHouse", name := "isSort", desc := "(I)Z" } : MethodName)) ∈ lw_tbl := tb_r (List.mem_of_getElem? (i := 335) (by decide +kernel))
theorem tb336 : (Cond.code ({ cls := "DiaryHouse", name := "isSort", desc := "(I)Z" } : MethodName) prog_1_method_80_code (1 : Nat) (Option.some FieldType.boolean)) ∈ lw_tbl := tb_r (List.mem_of_getElem? (i := 336) (by decide +kernel))
theorem tb337 : (Cond.methodLink "DiaryHouse" (118 : Nat) ({ cls := "DiaryHouse", name := "isHearing", desc := "(III)Z" } : MethodName)) ∈ lw_tbl := tb_r (List.mem_of_getElem? (i := 337) (by decide +kernel))
theorem tb339 : (Cond.instanceMethod ({ cls := "DiaryHouse", name := "isHearing", desc := "(III)Z" } : MethodName)) ∈ lw_tbl := tb_r (List.mem_of_getElem? (i := 339) (by decide +kernel))
theorem tb340 : (Cond.code ({ cls := "DiaryHouse", name := "isHearing", desc := "(III)Z" } : MethodName) prog_1_method_5_code (4 : Nat) (Option.some FieldType.boolean)) ∈ lw_tbl := tb_r (List.mem_of_getElem? (i := 340) (by decide +kernel))
theorem tb341 : (Cond.methodLink "DiaryHouse" (133 : Nat) ({ cls := "DiaryHouse", name := "isSaying", desc := "(I)Z" } : MethodName)) ∈ lw_tbl := tb_r (List.mem_of_getElem? (i := 341) (by decide +kernel))
theorem tb342 : (Cond.static ({ cls := "DiaryHouse", name := "isSaying", desc := "(I)Z" } : MethodName)) ∈ lw_tbl := tb_r (List.mem_of_getElem? (i := 342) (by decide +kernel))
theorem tb343 : (Cond.code ({ cls := "DiaryHouse", name := "isSaying", desc := "(I)Z" } : MethodName) prog_1_method_81_code (1 : Nat) (Option.some FieldType.boolean)) ∈ lw_tbl := tb_r (List.mem_of_getElem? (i := 343) (by decide +kernel))
theorem tb344 : (Cond.methodLink "DiaryHouse" (121 : Nat) ({ cls := "DiaryHouse", name := "hasStoppedBy", desc := "(III)Z" } : MethodName)) ∈ lw_tbl := tb_r (List.mem_of_getElem? (i := 344) (by decide +kernel))
theorem tb346 : (Cond.instanceMethod ({ cls := "DiaryHouse", name := "hasStoppedBy", desc := "(III)Z" } : MethodName)) ∈ lw_tbl := tb_r (List.mem_of_getElem? (i := 346) (by decide +kernel))
theorem tb347 : (Cond.code ({ cls := "DiaryHouse", name := "hasStoppedBy", desc := "(III)Z" } : MethodName) prog_1_method_10_code (5 : Nat) (Option.some FieldType.boolean)) ∈ lw_tbl := tb_r (List.mem_of_getElem? (i := 347) (by decide +kernel))
theorem tb348 : (Cond.methodLink "DiaryHouse" (161 : Nat) ({ cls := "DiaryHouse", name := "stopDayOf", desc := "(II)I" } : MethodName)) ∈ lw_tbl := tb_r (List.mem_of_getElem? (i := 348) (by decide +kernel))
theorem tb350 : (Cond.instanceMethod ({ cls := "DiaryHouse", name := "stopDayOf", desc := "(II)I" } : MethodName)) ∈ lw_tbl := tb_r (List.mem_of_getElem? (i := 350) (by decide +kernel))
theorem tb351 : (Cond.code ({ cls := "DiaryHouse", name := "stopDayOf", desc := "(II)I" } : MethodName) prog_1_method_9_code (5 : Nat) (Option.some FieldType.int)) ∈ lw_tbl := tb_r (List.mem_of_getElem? (i := 351) (by decide +kernel))
theorem tb352 : (Cond.methodLink "DiaryHouse" (126 : Nat) ({ cls := "java/util/ArrayList", name := "get", desc := "(I)Ljava/lang/Object;" } : MethodName)) ∈ lw_tbl := tb_r (List.mem_of_getElem? (i := 352) (by decide +kernel))
theorem tb353 : (Cond.instanceMethod ({ cls := "java/util/ArrayList", name := "get", desc := "(I)Ljava/lang/Object;" } : MethodName)) ∈ lw_tbl := tb_r (List.mem_of_getElem? (i := 353) (by decide +kernel))
theorem tb354 : (Cond.selects "java/util/ArrayList" ({ cls := "java/util/ArrayList", name := "get", desc := "(I)Ljava/lang/Object;" } : MethodName) ({ cls := "java/util/ArrayList", name := "get", desc := "(I)Ljava/lang/Object;" } : MethodName)) ∈ lw_tbl := tb_r (List.mem_of_getElem? (i := 354) (by decide +kernel))
theorem tb355 : (Cond.code ({ cls := "java/util/ArrayList", name := "get", desc := "(I)Ljava/lang/Object;" } : MethodName) prog_34_method_20_code (2 : Nat) (Option.some (FieldType.object "java/lang/Object"))) ∈ lw_tbl := tb_r (List.mem_of_getElem? (i := 355) (by decide +kernel))
theorem tb356 : (Cond.methodLink "java/util/ArrayList" (118 : Nat) ({ cls := "java/util/Objects", name := "checkIndex", desc := "(II)I" } : MethodName)) ∈ lw_tbl := tb_r (List.mem_of_getElem? (i := 356) (by decide +kernel))
theorem tb357 : (Cond.static ({ cls := "java/util/Objects", name := "checkIndex", desc := "(II)I" } : MethodName)) ∈ lw_tbl := tb_r (List.mem_of_getElem? (i := 357) (by decide +kernel))
theorem tb358 : (Cond.code ({ cls := "java/util/Objects", name := "checkIndex", desc := "(II)I" } : MethodName) prog_39_method_17_code (2 : Nat) (Option.some FieldType.int)) ∈ lw_tbl := tb_r (List.mem_of_getElem? (i := 358) (by decide +kernel))
theorem tb359 : (Cond.methodLink "java/util/Objects" (105 : Nat) ({ cls := "jdk/internal/util/Preconditions", name := "checkIndex", desc := "(IILjava/util/function/BiFunction;)I" } : MethodName)) ∈ lw_tbl := tb_r (List.mem_of_getElem? (i := 359) (by decide +kernel))
theorem tb360 : (Cond.static ({ cls := "jdk/internal/util/Preconditions", name := "checkIndex", desc := "(IILjava/util/function/BiFunction;)I" } : MethodName)) ∈ lw_tbl := tb_r (List.mem_of_getElem? (i := 360) (by decide +kernel))
theorem tb361 : (Cond.code ({ cls := "jdk/internal/util/Preconditions", name := "checkIndex", desc := "(IILjava/util/function/BiFunction;)I" } : MethodName) prog_43_method_11_code (3 : Nat) (Option.some FieldType.int)) ∈ lw_tbl := tb_r (List.mem_of_getElem? (i := 361) (by decide +kernel))
theorem tb362 : (Cond.methodLink "java/util/ArrayList" (123 : Nat) ({ cls := "java/util/ArrayList", name := "elementData", desc := "(I)Ljava/lang/Object;" } : MethodName)) ∈ lw_tbl := tb_r (List.mem_of_getElem? (i := 362) (by decide +kernel))
theorem tb363 : (Cond.instanceMethod ({ cls := "java/util/ArrayList", name := "elementData", desc := "(I)Ljava/lang/Object;" } : MethodName)) ∈ lw_tbl := tb_r (List.mem_of_getElem? (i := 363) (by decide +kernel))
theorem tb364 : (Cond.selects "java/util/ArrayList" ({ cls := "java/util/ArrayList", name := "elementData", desc := "(I)Ljava/lang/Object;" } : MethodName) ({ cls := "java/util/ArrayList", name := "elementData", desc := "(I)Ljava/lang/Object;" } : MethodName)) ∈ lw_tbl := tb_r (List.mem_of_getElem? (i := 364) (by decide +kernel))
theorem tb365 : (Cond.code ({ cls := "java/util/ArrayList", name := "elementData", desc := "(I)Ljava/lang/Object;" } : MethodName) prog_34_method_18_code (2 : Nat) (Option.some (FieldType.object "java/lang/Object"))) ∈ lw_tbl := tb_r (List.mem_of_getElem? (i := 365) (by decide +kernel))
theorem tb366 : (Cond.classLink "DiaryHouse" (153 : Nat) "DiaryHouse$Stop") ∈ lw_tbl := tb_r (List.mem_of_getElem? (i := 366) (by decide +kernel))
theorem tb367 : (Cond.classLink "DiaryHouse" (124 : Nat) "DiaryHouse$Line") ∈ lw_tbl := tb_r (List.mem_of_getElem? (i := 367) (by decide +kernel))
theorem tb369 : (Cond.methodLink "DiaryHouse" (130 : Nat) ({ cls := "DiaryHouse$Line", name := "<init>", desc := "(LDiaryHouse$Person;IIIIII)V" } : MethodName)) ∈ lw_tbl := tb_r (List.mem_of_getElem? (i := 369) (by decide +kernel))
theorem tb370 : (Cond.instanceMethod ({ cls := "DiaryHouse$Line", name := "<init>", desc := "(LDiaryHouse$Person;IIIIII)V" } : MethodName)) ∈ lw_tbl := tb_r (List.mem_of_getElem? (i := 370) (by decide +kernel))
theorem tb371 : (Cond.code ({ cls := "DiaryHouse$Line", name := "<init>", desc := "(LDiaryHouse$Person;IIIIII)V" } : MethodName) prog_3_method_1_code (8 : Nat) (Option.none : Option FieldType)) ∈ lw_tbl := tb_r (List.mem_of_getElem? (i := 371) (by decide +kernel))
theorem tb372 : (Cond.methodLink "DiaryHouse$Line" (1 : Nat) ({ cls := "java/lang/Object", name := "<init>", desc := "()V" } : MethodName)) ∈ lw_tbl := tb_r (List.mem_of_getElem? (i := 372) (by decide +kernel))
theorem tb373 : (Cond.fieldLink "DiaryHouse$Line" (7 : Nat) "DiaryHouse$Line" "writer" "LDiaryHouse$Person;") ∈ lw_tbl := tb_r (List.mem_of_getElem? (i := 373) (by decide +kernel))
theorem tb374 : (Cond.fieldLinkNest "DiaryHouse" (243 : Nat) "DiaryHouse$Line" "writer" "LDiaryHouse$Person;" "DiaryHouse") ∈ lw_tbl := tb_r (List.mem_of_getElem? (i := 374) (by decide +kernel))
theorem tb375 : (Cond.fieldLink "DiaryHouse$Line" (13 : Nat) "DiaryHouse$Line" "day" "I") ∈ lw_tbl := tb_r (List.mem_of_getElem? (i := 375) (by decide +kernel))
theorem tb376 : (Cond.fieldLinkNest "DiaryHouse" (238 : Nat) "DiaryHouse$Line" "day" "I" "DiaryHouse") ∈ lw_tbl := tb_r (List.mem_of_getElem? (i := 376) (by decide +kernel))
theorem tb377 : (Cond.fieldLink "DiaryHouse$Line" (17 : Nat) "DiaryHouse$Line" "sort" "I") ∈ lw_tbl := tb_r (List.mem_of_getElem? (i := 377) (by decide +kernel))
theorem tb378 : (Cond.fieldLinkNest "DiaryHouse" (247 : Nat) "DiaryHouse$Line" "sort" "I" "DiaryHouse") ∈ lw_tbl := tb_r (List.mem_of_getElem? (i := 378) (by decide +kernel))
theorem tb379 : (Cond.fieldLink "DiaryHouse$Line" (20 : Nat) "DiaryHouse$Line" "mood" "I") ∈ lw_tbl := tb_r (List.mem_of_getElem? (i := 379) (by decide +kernel))
theorem tb380 : (Cond.fieldLinkNest "DiaryHouse" (250 : Nat) "DiaryHouse$Line" "mood" "I" "DiaryHouse") ∈ lw_tbl := tb_r (List.mem_of_getElem? (i := 380) (by decide +kernel))
theorem tb381 : (Cond.fieldLink "DiaryHouse$Line" (23 : Nat) "DiaryHouse$Line" "saying" "I") ∈ lw_tbl := tb_r (List.mem_of_getElem? (i := 381) (by decide +kernel))
theorem tb382 : (Cond.fieldLinkNest "DiaryHouse" (312 : Nat) "DiaryHouse$Line" "saying" "I" "DiaryHouse") ∈ lw_tbl := tb_r (List.mem_of_getElem? (i := 382) (by decide +kernel))
theorem tb383 : (Cond.fieldLink "DiaryHouse$Line" (26 : Nat) "DiaryHouse$Line" "from" "I") ∈ lw_tbl := tb_r (List.mem_of_getElem? (i := 383) (by decide +kernel))
theorem tb384 : (Cond.fieldLinkNest "DiaryHouse" (305 : Nat) "DiaryHouse$Line" "from" "I" "DiaryHouse") ∈ lw_tbl := tb_r (List.mem_of_getElem? (i := 384) (by decide +kernel))
theorem tb385 : (Cond.fieldLink "DiaryHouse$Line" (29 : Nat) "DiaryHouse$Line" "told" "I") ∈ lw_tbl := tb_r (List.mem_of_getElem? (i := 385) (by decide +kernel))
theorem tb386 : (Cond.fieldLinkNest "DiaryHouse" (315 : Nat) "DiaryHouse$Line" "told" "I" "DiaryHouse") ∈ lw_tbl := tb_r (List.mem_of_getElem? (i := 386) (by decide +kernel))
theorem tb402 : (Cond.methodLink "DiaryHouseLaw" (44 : Nat) ({ cls := "DiaryHouse", name := "stop", desc := "(II)Z" } : MethodName)) ∈ lw_tbl := tb_r (List.mem_of_getElem? (i := 402) (by decide +kernel))
theorem tb403 : (Cond.instanceMethod ({ cls := "DiaryHouse", name := "stop", desc := "(II)Z" } : MethodName)) ∈ lw_tbl := tb_r (List.mem_of_getElem? (i := 403) (by decide +kernel))
theorem tb404 : (Cond.selects "DiaryHouse" ({ cls := "DiaryHouse", name := "stop", desc := "(II)Z" } : MethodName) ({ cls := "DiaryHouse", name := "stop", desc := "(II)Z" } : MethodName)) ∈ lw_tbl := tb_r (List.mem_of_getElem? (i := 404) (by decide +kernel))
theorem tb405 : (Cond.code ({ cls := "DiaryHouse", name := "stop", desc := "(II)Z" } : MethodName) prog_1_method_7_code (3 : Nat) (Option.some FieldType.boolean)) ∈ lw_tbl := tb_r (List.mem_of_getElem? (i := 405) (by decide +kernel))
theorem tb406 : (Cond.methodLink "DiaryHouse" (150 : Nat) ({ cls := "DiaryHouse", name := "isDay", desc := "(I)Z" } : MethodName)) ∈ lw_tbl := tb_r (List.mem_of_getElem? (i := 406) (by decide +kernel))
theorem tb407 : (Cond.static ({ cls := "DiaryHouse", name := "isDay", desc := "(I)Z" } : MethodName)) ∈ lw_tbl := tb_r (List.mem_of_getElem? (i := 407) (by decide +kernel))
theorem tb408 : (Cond.code ({ cls := "DiaryHouse", name := "isDay", desc := "(I)Z" } : MethodName) prog_1_method_74_code (1 : Nat) (Option.some FieldType.boolean)) ∈ lw_tbl := tb_r (List.mem_of_getElem? (i := 408) (by decide +kernel))
theorem tb410 : (Cond.methodLink "DiaryHouse" (155 : Nat) ({ cls := "DiaryHouse$Stop", name := "<init>", desc := "(III)V" } : MethodName)) ∈ lw_tbl := tb_r (List.mem_of_getElem? (i := 410) (by decide +kernel))
theorem tb411 : (Cond.instanceMethod ({ cls := "DiaryHouse$Stop", name := "<init>", desc := "(III)V" } : MethodName)) ∈ lw_tbl := tb_r (List.mem_of_getElem? (i := 411) (by decide +kernel))
theorem tb412 : (Cond.code ({ cls := "DiaryHouse$Stop", name := "<init>", desc := "(III)V" } : MethodName) prog_9_method_1_code (4 : Nat) (Option.none : Option FieldType)) ∈ lw_tbl := tb_r (List.mem_of_getElem? (i := 412) (by decide +kernel))
theorem tb413 : (Cond.methodLink "DiaryHouse$Stop" (1 : Nat) ({ cls := "java/lang/Object", name := "<init>", desc := "()V" } : MethodName)) ∈ lw_tbl := tb_r (List.mem_of_getElem? (i := 413) (by decide +kernel))
theorem tb414 : (Cond.fieldLink "DiaryHouse$Stop" (7 : Nat) "DiaryHouse$Stop" "person" "I") ∈ lw_tbl := tb_r (List.mem_of_getElem? (i := 414) (by decide +kernel))
theorem tb415 : (Cond.fieldLinkNest "DiaryHouse" (165 : Nat) "DiaryHouse$Stop" "person" "I" "DiaryHouse") ∈ lw_tbl := tb_r (List.mem_of_getElem? (i := 415) (by decide +kernel))
theorem tb416 : (Cond.fieldLink "DiaryHouse$Stop" (13 : Nat) "DiaryHouse$Stop" "day" "I") ∈ lw_tbl := tb_r (List.mem_of_getElem? (i := 416) (by decide +kernel))
theorem tb417 : (Cond.fieldLinkNest "DiaryHouse" (171 : Nat) "DiaryHouse$Stop" "day" "I" "DiaryHouse") ∈ lw_tbl := tb_r (List.mem_of_getElem? (i := 417) (by decide +kernel))
theorem tb418 : (Cond.fieldLink "DiaryHouse$Stop" (16 : Nat) "DiaryHouse$Stop" "told" "I") ∈ lw_tbl := tb_r (List.mem_of_getElem? (i := 418) (by decide +kernel))
theorem tb419 : (Cond.fieldLinkNest "DiaryHouse" (168 : Nat) "DiaryHouse$Stop" "told" "I" "DiaryHouse") ∈ lw_tbl := tb_r (List.mem_of_getElem? (i := 419) (by decide +kernel))
theorem tb427 : (Cond.methodLink "DiaryHouseLaw" (49 : Nat) ({ cls := "DiaryHouse", name := "stopped", desc := "(II)I" } : MethodName)) ∈ lw_tbl := tb_r (List.mem_of_getElem? (i := 427) (by decide +kernel))
theorem tb428 : (Cond.instanceMethod ({ cls := "DiaryHouse", name := "stopped", desc := "(II)I" } : MethodName)) ∈ lw_tbl := tb_r (List.mem_of_getElem? (i := 428) (by decide +kernel))
theorem tb429 : (Cond.selects "DiaryHouse" ({ cls := "DiaryHouse", name := "stopped", desc := "(II)I" } : MethodName) ({ cls := "DiaryHouse", name := "stopped", desc := "(II)I" } : MethodName)) ∈ lw_tbl := tb_r (List.mem_of_getElem? (i := 429) (by decide +kernel))
theorem tb430 : (Cond.code ({ cls := "DiaryHouse", name := "stopped", desc := "(II)I" } : MethodName) prog_1_method_8_code (3 : Nat) (Option.some FieldType.int)) ∈ lw_tbl := tb_r (List.mem_of_getElem? (i := 430) (by decide +kernel))
theorem tb431 : (Cond.methodLink "DiaryHouse" (158 : Nat) ({ cls := "DiaryHouse", name := "isKnownDay", desc := "(I)Z" } : MethodName)) ∈ lw_tbl := tb_r (List.mem_of_getElem? (i := 431) (by decide +kernel))
theorem tb433 : (Cond.instanceMethod ({ cls := "DiaryHouse", name := "isKnownDay", desc := "(I)Z" } : MethodName)) ∈ lw_tbl := tb_r (List.mem_of_getElem? (i := 433) (by decide +kernel))
theorem tb434 : (Cond.code ({ cls := "DiaryHouse", name := "isKnownDay", desc := "(I)Z" } : MethodName) prog_1_method_75_code (2 : Nat) (Option.some FieldType.boolean)) ∈ lw_tbl := tb_r (List.mem_of_getElem? (i := 434) (by decide +kernel))
theorem tb435 : (Cond.methodLink "DiaryHouseLaw" (53 : Nat) ({ cls := "DiaryHouse", name := "feed", desc := "(IIIII)I" } : MethodName)) ∈ lw_tbl := tb_r (List.mem_of_getElem? (i := 435) (by decide +kernel))
theorem tb436 : (Cond.instanceMethod ({ cls := "DiaryHouse", name := "feed", desc := "(IIIII)I" } : MethodName)) ∈ lw_tbl := tb_r (List.mem_of_getElem? (i := 436) (by decide +kernel))
theorem tb437 : (Cond.selects "DiaryHouse" ({ cls := "DiaryHouse", name := "feed", desc := "(IIIII)I" } : MethodName) ({ cls := "DiaryHouse", name := "feed", desc := "(IIIII)I" } : MethodName)) ∈ lw_tbl := tb_r (List.mem_of_getElem? (i := 437) (by decide +kernel))
theorem tb438 : (Cond.code ({ cls := "DiaryHouse", name := "feed", desc := "(IIIII)I" } : MethodName) prog_1_method_11_code (7 : Nat) (Option.some FieldType.int)) ∈ lw_tbl := tb_r (List.mem_of_getElem? (i := 438) (by decide +kernel))
theorem tb439 : (Cond.methodLink "DiaryHouse" (174 : Nat) ({ cls := "DiaryHouse", name := "bytesIn", desc := "(I)I" } : MethodName)) ∈ lw_tbl := tb_r (List.mem_of_getElem? (i := 439) (by decide +kernel))
theorem tb440 : (Cond.static ({ cls := "DiaryHouse", name := "bytesIn", desc := "(I)I" } : MethodName)) ∈ lw_tbl := tb_r (List.mem_of_getElem? (i := 440) (by decide +kernel))
theorem tb441 : (Cond.code ({ cls := "DiaryHouse", name := "bytesIn", desc := "(I)I" } : MethodName) prog_1_method_12_code (3 : Nat) (Option.some FieldType.int)) ∈ lw_tbl := tb_r (List.mem_of_getElem? (i := 441) (by decide +kernel))
theorem tb442 : (Cond.methodLink "DiaryHouse" (177 : Nat) ({ cls := "DiaryHouse$Tape", name := "length", desc := "()I" } : MethodName)) ∈ lw_tbl := tb_r (List.mem_of_getElem? (i := 442) (by decide +kernel))
theorem tb443 : (Cond.instanceMethod ({ cls := "DiaryHouse$Tape", name := "length", desc := "()I" } : MethodName)) ∈ lw_tbl := tb_r (List.mem_of_getElem? (i := 443) (by decide +kernel))
theorem tb444 : (Cond.selects "DiaryHouse$Tape" ({ cls := "DiaryHouse$Tape", name := "length", desc := "()I" } : MethodName) ({ cls := "DiaryHouse$Tape", name := "length", desc := "()I" } : MethodName)) ∈ lw_tbl := tb_r (List.mem_of_getElem? (i := 444) (by decide +kernel))
theorem tb445 : (Cond.code ({ cls := "DiaryHouse$Tape", name := "length", desc := "()I" } : MethodName) prog_11_method_2_code (1 : Nat) (Option.some FieldType.int)) ∈ lw_tbl := tb_r (List.mem_of_getElem? (i := 445) (by decide +kernel))
theorem tb446 : (Cond.methodLink "DiaryHouse" (178 : Nat) ({ cls := "DiaryHouse$Tape", name := "append", desc := "(I)V" } : MethodName)) ∈ lw_tbl := tb_r (List.mem_of_getElem? (i := 446) (by decide +kernel))
theorem tb447 : (Cond.instanceMethod ({ cls := "DiaryHouse$Tape", name := "append", desc := "(I)V" } : MethodName)) ∈ lw_tbl := tb_r (List.mem_of_getElem? (i := 447) (by decide +kernel))
theorem tb448 : (Cond.selects "DiaryHouse$Tape" ({ cls := "DiaryHouse$Tape", name := "append", desc := "(I)V" } : MethodName) ({ cls := "DiaryHouse$Tape", name := "append", desc := "(I)V" } : MethodName)) ∈ lw_tbl := tb_r (List.mem_of_getElem? (i := 448) (by decide +kernel))
theorem tb449 : (Cond.code ({ cls := "DiaryHouse$Tape", name := "append", desc := "(I)V" } : MethodName) prog_11_method_3_code (4 : Nat) (Option.none : Option FieldType)) ∈ lw_tbl := tb_r (List.mem_of_getElem? (i := 449) (by decide +kernel))
theorem tb450 : (Cond.methodLink "DiaryHouseLaw" (58 : Nat) ({ cls := "DiaryHouse", name := "end", desc := "(I)Z" } : MethodName)) ∈ lw_tbl := tb_r (List.mem_of_getElem? (i := 450) (by decide +kernel))
theorem tb451 : (Cond.instanceMethod ({ cls := "DiaryHouse", name := "end", desc := "(I)Z" } : MethodName)) ∈ lw_tbl := tb_r (List.mem_of_getElem? (i := 451) (by decide +kernel))
theorem tb452 : (Cond.selects "DiaryHouse" ({ cls := "DiaryHouse", name := "end", desc := "(I)Z" } : MethodName) ({ cls := "DiaryHouse", name := "end", desc := "(I)Z" } : MethodName)) ∈ lw_tbl := tb_r (List.mem_of_getElem? (i := 452) (by decide +kernel))
theorem tb453 : (Cond.code ({ cls := "DiaryHouse", name := "end", desc := "(I)Z" } : MethodName) prog_1_method_13_code (2 : Nat) (Option.some FieldType.boolean)) ∈ lw_tbl := tb_r (List.mem_of_getElem? (i := 453) (by decide +kernel))
theorem tb454 : (Cond.methodLink "DiaryHouse" (182 : Nat) ({ cls := "DiaryHouse$Tape", name := "cut", desc := "(I)V" } : MethodName)) ∈ lw_tbl := tb_r (List.mem_of_getElem? (i := 454) (by decide +kernel))
theorem tb455 : (Cond.instanceMethod ({ cls := "DiaryHouse$Tape", name := "cut", desc := "(I)V" } : MethodName)) ∈ lw_tbl := tb_r (List.mem_of_getElem? (i := 455) (by decide +kernel))
theorem tb456 : (Cond.selects "DiaryHouse$Tape" ({ cls := "DiaryHouse$Tape", name := "cut", desc := "(I)V" } : MethodName) ({ cls := "DiaryHouse$Tape", name := "cut", desc := "(I)V" } : MethodName)) ∈ lw_tbl := tb_r (List.mem_of_getElem? (i := 456) (by decide +kernel))
theorem tb457 : (Cond.code ({ cls := "DiaryHouse$Tape", name := "cut", desc := "(I)V" } : MethodName) prog_11_method_4_code (2 : Nat) (Option.none : Option FieldType)) ∈ lw_tbl := tb_r (List.mem_of_getElem? (i := 457) (by decide +kernel))
theorem tb458 : (Cond.methodLink "DiaryHouseLaw" (63 : Nat) ({ cls := "DiaryHouse", name := "fault", desc := "()I" } : MethodName)) ∈ lw_tbl := tb_r (List.mem_of_getElem? (i := 458) (by decide +kernel))
theorem tb459 : (Cond.instanceMethod ({ cls := "DiaryHouse", name := "fault", desc := "()I" } : MethodName)) ∈ lw_tbl := tb_r (List.mem_of_getElem? (i := 459) (by decide +kernel))
theorem tb460 : (Cond.selects "DiaryHouse" ({ cls := "DiaryHouse", name := "fault", desc := "()I" } : MethodName) ({ cls := "DiaryHouse", name := "fault", desc := "()I" } : MethodName)) ∈ lw_tbl := tb_r (List.mem_of_getElem? (i := 460) (by decide +kernel))
theorem tb461 : (Cond.code ({ cls := "DiaryHouse", name := "fault", desc := "()I" } : MethodName) prog_1_method_14_code (1 : Nat) (Option.some FieldType.int)) ∈ lw_tbl := tb_r (List.mem_of_getElem? (i := 461) (by decide +kernel))
theorem tb462 : (Cond.methodLink "DiaryHouse" (185 : Nat) ({ cls := "DiaryHouse$Tape", name := "read", desc := "()I" } : MethodName)) ∈ lw_tbl := tb_r (List.mem_of_getElem? (i := 462) (by decide +kernel))
theorem tb463 : (Cond.instanceMethod ({ cls := "DiaryHouse$Tape", name := "read", desc := "()I" } : MethodName)) ∈ lw_tbl := tb_r (List.mem_of_getElem? (i := 463) (by decide +kernel))
theorem tb464 : (Cond.selects "DiaryHouse$Tape" ({ cls := "DiaryHouse$Tape", name := "read", desc := "()I" } : MethodName) ({ cls := "DiaryHouse$Tape", name := "read", desc := "()I" } : MethodName)) ∈ lw_tbl := tb_r (List.mem_of_getElem? (i := 464) (by decide +kernel))
theorem tb465 : (Cond.code ({ cls := "DiaryHouse$Tape", name := "read", desc := "()I" } : MethodName) prog_11_method_6_code (3 : Nat) (Option.some FieldType.int)) ∈ lw_tbl := tb_r (List.mem_of_getElem? (i := 465) (by decide +kernel))
theorem tb466 : (Cond.methodLink "DiaryHouse$Tape" (35 : Nat) ({ cls := "DiaryHouse$Tape", name := "readClause", desc := "()Z" } : MethodName)) ∈ lw_tbl := tb_r (List.mem_of_getElem? (i := 466) (by decide +kernel))
theorem tb468 : (Cond.instanceMethod ({ cls := "DiaryHouse$Tape", name := "readClause", desc := "()Z" } : MethodName)) ∈ lw_tbl := tb_r (List.mem_of_getElem? (i := 468) (by decide +kernel))
theorem tb469 : (Cond.code ({ cls := "DiaryHouse$Tape", name := "readClause", desc := "()Z" } : MethodName) prog_11_method_7_code (3 : Nat) (Option.some FieldType.boolean)) ∈ lw_tbl := tb_r (List.mem_of_getElem? (i := 469) (by decide +kernel))
theorem tb471 : (Cond.methodLink "DiaryHouse$Tape" (49 : Nat) ({ cls := "DiaryHouse$Tape", name := "sees", desc := "(Ljava/lang/String;)Z" } : MethodName)) ∈ lw_tbl := tb_r (List.mem_of_getElem? (i := 471) (by decide +kernel))
theorem tb473 : (Cond.instanceMethod ({ cls := "DiaryHouse$Tape", name := "sees", desc := "(Ljava/lang/String;)Z" } : MethodName)) ∈ lw_tbl := tb_r (List.mem_of_getElem? (i := 473) (by decide +kernel))
theorem tb474 : (Cond.code ({ cls := "DiaryHouse$Tape", name := "sees", desc := "(Ljava/lang/String;)Z" } : MethodName) prog_11_method_18_code (2 : Nat) (Option.some FieldType.boolean)) ∈ lw_tbl := tb_r (List.mem_of_getElem? (i := 474) (by decide +kernel))
theorem tb475 : (Cond.methodLink "DiaryHouse$Tape" (123 : Nat) ({ cls := "java/lang/String", name := "indexOf", desc := "(I)I" } : MethodName)) ∈ lw_tbl := tb_r (List.mem_of_getElem? (i := 475) (by decide +kernel))
theorem tb476 : (Cond.instanceMethod ({ cls := "java/lang/String", name := "indexOf", desc := "(I)I" } : MethodName)) ∈ lw_tbl := tb_r (List.mem_of_getElem? (i := 476) (by decide +kernel))
theorem tb477 : (Cond.selects "java/lang/String" ({ cls := "java/lang/String", name := "indexOf", desc := "(I)I" } : MethodName) ({ cls := "java/lang/String", name := "indexOf", desc := "(I)I" } : MethodName)) ∈ lw_tbl := tb_r (List.mem_of_getElem? (i := 477) (by decide +kernel))
theorem tb478 : (Cond.code ({ cls := "java/lang/String", name := "indexOf", desc := "(I)I" } : MethodName) prog_25_method_79_code (2 : Nat) (Option.some FieldType.int)) ∈ lw_tbl := tb_r (List.mem_of_getElem? (i := 478) (by decide +kernel))
theorem tb479 : (Cond.methodLink "java/lang/String" (633 : Nat) ({ cls := "java/lang/String", name := "indexOf", desc := "(II)I" } : MethodName)) ∈ lw_tbl := tb_r (List.mem_of_getElem? (i := 479) (by decide +kernel))
theorem tb480 : (Cond.instanceMethod ({ cls := "java/lang/String", name := "indexOf", desc := "(II)I" } : MethodName)) ∈ lw_tbl := tb_r (List.mem_of_getElem? (i := 480) (by decide +kernel))
theorem tb481 : (Cond.selects "java/lang/String" ({ cls := "java/lang/String", name := "indexOf", desc := "(II)I" } : MethodName) ({ cls := "java/lang/String", name := "indexOf", desc := "(II)I" } : MethodName)) ∈ lw_tbl := tb_r (List.mem_of_getElem? (i := 481) (by decide +kernel))
theorem tb482 : (Cond.code ({ cls := "java/lang/String", name := "indexOf", desc := "(II)I" } : MethodName) prog_25_method_80_code (3 : Nat) (Option.some FieldType.int)) ∈ lw_tbl := tb_r (List.mem_of_getElem? (i := 482) (by decide +kernel))
theorem tb483 : (Cond.methodLink "java/lang/String" (492 : Nat) ({ cls := "java/lang/String", name := "isLatin1", desc := "()Z" } : MethodName)) ∈ lw_tbl := tb_r (List.mem_of_getElem? (i := 483) (by decide +kernel))
theorem tb484 : (Cond.instanceMethod ({ cls := "java/lang/String", name := "isLatin1", desc := "()Z" } : MethodName)) ∈ lw_tbl := tb_r (List.mem_of_getElem? (i := 484) (by decide +kernel))
theorem tb485 : (Cond.selects "java/lang/String" ({ cls := "java/lang/String", name := "isLatin1", desc := "()Z" } : MethodName) ({ cls := "java/lang/String", name := "isLatin1", desc := "()Z" } : MethodName)) ∈ lw_tbl := tb_r (List.mem_of_getElem? (i := 485) (by decide +kernel))
theorem tb486 : (Cond.code ({ cls := "java/lang/String", name := "isLatin1", desc := "()Z" } : MethodName) prog_25_method_154_code (1 : Nat) (Option.some FieldType.boolean)) ∈ lw_tbl := tb_r (List.mem_of_getElem? (i := 486) (by decide +kernel))
theorem tb487 : (Cond.methodLink "java/lang/String" (505 : Nat) ({ cls := "java/lang/String", name := "length", desc := "()I" } : MethodName)) ∈ lw_tbl := tb_r (List.mem_of_getElem? (i := 487) (by decide +kernel))
theorem tb488 : (Cond.methodLink "java/lang/String" (637 : Nat) ({ cls := "java/lang/StringLatin1", name := "indexOf", desc := "([BIII)I" } : MethodName)) ∈ lw_tbl := tb_r (List.mem_of_getElem? (i := 488) (by decide +kernel))
theorem tb489 : (Cond.static ({ cls := "java/lang/StringLatin1", name := "indexOf", desc := "([BIII)I" } : MethodName)) ∈ lw_tbl := tb_r (List.mem_of_getElem? (i := 489) (by decide +kernel))
theorem tb490 : (Cond.code ({ cls := "java/lang/StringLatin1", name := "indexOf", desc := "([BIII)I" } : MethodName) prog_26_method_22_code (4 : Nat) (Option.some FieldType.int)) ∈ lw_tbl := tb_r (List.mem_of_getElem? (i := 490) (by decide +kernel))
theorem tb491 : (Cond.methodLink "java/lang/StringLatin1" (88 : Nat) ({ cls := "java/lang/StringLatin1", name := "canEncode", desc := "(I)Z" } : MethodName)) ∈ lw_tbl := tb_r (List.mem_of_getElem? (i := 491) (by decide +kernel))
theorem tb492 : (Cond.static ({ cls := "java/lang/StringLatin1", name := "canEncode", desc := "(I)Z" } : MethodName)) ∈ lw_tbl := tb_r (List.mem_of_getElem? (i := 492) (by decide +kernel))
theorem tb493 : (Cond.code ({ cls := "java/lang/StringLatin1", name := "canEncode", desc := "(I)Z" } : MethodName) prog_26_method_4_code (1 : Nat) (Option.some FieldType.boolean)) ∈ lw_tbl := tb_r (List.mem_of_getElem? (i := 493) (by decide +kernel))
theorem tb494 : (Cond.methodLink "java/lang/StringLatin1" (92 : Nat) ({ cls := "java/lang/Math", name := "max", desc := "(II)I" } : MethodName)) ∈ lw_tbl := tb_r (List.mem_of_getElem? (i := 494) (by decide +kernel))
theorem tb495 : (Cond.methodLink "java/lang/StringLatin1" (38 : Nat) ({ cls := "java/lang/Math", name := "min", desc := "(II)I" } : MethodName)) ∈ lw_tbl := tb_r (List.mem_of_getElem? (i := 495) (by decide +kernel))
theorem tb496 : (Cond.methodLink "java/lang/StringLatin1" (95 : Nat) ({ cls := "java/lang/StringLatin1", name := "indexOfChar", desc := "([BIII)I" } : MethodName)) ∈ lw_tbl := tb_r (List.mem_of_getElem? (i := 496) (by decide +kernel))
theorem tb497 : (Cond.static ({ cls := "java/lang/StringLatin1", name := "indexOfChar", desc := "([BIII)I" } : MethodName)) ∈ lw_tbl := tb_r (List.mem_of_getElem? (i := 497) (by decide +kernel))
theorem tb498 : (Cond.code ({ cls := "java/lang/StringLatin1", name := "indexOfChar", desc := "([BIII)I" } : MethodName) prog_26_method_23_code (6 : Nat) (Option.some FieldType.int)) ∈ lw_tbl := tb_r (List.mem_of_getElem? (i := 498) (by decide +kernel))
theorem tb499 : (Cond.methodLink "java/lang/String" (640 : Nat) ({ cls := "java/lang/StringUTF16", name := "indexOf", desc := "([BIII)I" } : MethodName)) ∈ lw_tbl := tb_r (List.mem_of_getElem? (i := 499) (by decide +kernel))
theorem tb500 : (Cond.static ({ cls := "java/lang/StringUTF16", name := "indexOf", desc := "([BIII)I" } : MethodName)) ∈ lw_tbl := tb_r (List.mem_of_getElem? (i := 500) (by decide +kernel))
theorem tb501 : (Cond.code ({ cls := "java/lang/StringUTF16", name := "indexOf", desc := "([BIII)I" } : MethodName) prog_27_method_40_code (4 : Nat) (Option.some FieldType.int)) ∈ lw_tbl := tb_r (List.mem_of_getElem? (i := 501) (by decide +kernel))
theorem tb502 : (Cond.methodLink "java/lang/StringUTF16" (224 : Nat) ({ cls := "java/lang/Math", name := "max", desc := "(II)I" } : MethodName)) ∈ lw_tbl := tb_r (List.mem_of_getElem? (i := 502) (by decide +kernel))
theorem tb503 : (Cond.methodLink "java/lang/StringUTF16" (183 : Nat) ({ cls := "java/lang/Math", name := "min", desc := "(II)I" } : MethodName)) ∈ lw_tbl := tb_r (List.mem_of_getElem? (i := 503) (by decide +kernel))
theorem tb504 : (Cond.constant "java/lang/StringUTF16" (227 : Nat) (65536 : Int32)) ∈ lw_tbl := tb_r (List.mem_of_getElem? (i := 504) (by decide +kernel))
theorem tb505 : (Cond.methodLink "java/lang/StringUTF16" (228 : Nat) ({ cls := "java/lang/StringUTF16", name := "indexOfChar", desc := "([BIII)I" } : MethodName)) ∈ lw_tbl := tb_r (List.mem_of_getElem? (i := 505) (by decide +kernel))
theorem tb506 : (Cond.static ({ cls := "java/lang/StringUTF16", name := "indexOfChar", desc := "([BIII)I" } : MethodName)) ∈ lw_tbl := tb_r (List.mem_of_getElem? (i := 506) (by decide +kernel))
theorem tb507 : (Cond.code ({ cls := "java/lang/StringUTF16", name := "indexOfChar", desc := "([BIII)I" } : MethodName) prog_27_method_47_code (4 : Nat) (Option.some FieldType.int)) ∈ lw_tbl := tb_r (List.mem_of_getElem? (i := 507) (by decide +kernel))
theorem tb508 : (Cond.methodLink "java/lang/StringUTF16" (96 : Nat) ({ cls := "java/lang/StringUTF16", name := "checkBoundsBeginEnd", desc := "(II[B)V" } : MethodName)) ∈ lw_tbl := tb_r (List.mem_of_getElem? (i := 508) (by decide +kernel))
theorem tb509 : (Cond.static ({ cls := "java/lang/StringUTF16", name := "checkBoundsBeginEnd", desc := "(II[B)V" } : MethodName)) ∈ lw_tbl := tb_r (List.mem_of_getElem? (i := 509) (by decide +kernel))
theorem tb510 : (Cond.code ({ cls := "java/lang/StringUTF16", name := "checkBoundsBeginEnd", desc := "(II[B)V" } : MethodName) prog_27_method_93_code (3 : Nat) (Option.none : Option FieldType)) ∈ lw_tbl := tb_r (List.mem_of_getElem? (i := 510) (by decide +kernel))
theorem tb511 : (Cond.methodLink "java/lang/StringUTF16" (48 : Nat) ({ cls := "java/lang/StringUTF16", name := "length", desc := "([B)I" } : MethodName)) ∈ lw_tbl := tb_r (List.mem_of_getElem? (i := 511) (by decide +kernel))
theorem tb512 : (Cond.static ({ cls := "java/lang/StringUTF16", name := "length", desc := "([B)I" } : MethodName)) ∈ lw_tbl := tb_r (List.mem_of_getElem? (i := 512) (by decide +kernel))
theorem tb513 : (Cond.code ({ cls := "java/lang/StringUTF16", name := "length", desc := "([B)I" } : MethodName) prog_27_method_6_code (1 : Nat) (Option.some FieldType.int)) ∈ lw_tbl := tb_r (List.mem_of_getElem? (i := 513) (by decide +kernel))
theorem tb514 : (Cond.methodLink "java/lang/StringUTF16" (241 : Nat) ({ cls := "java/lang/String", name := "checkBoundsBeginEnd", desc := "(III)V" } : MethodName)) ∈ lw_tbl := tb_r (List.mem_of_getElem? (i := 514) (by decide +kernel))
theorem tb515 : (Cond.static ({ cls := "java/lang/String", name := "checkBoundsBeginEnd", desc := "(III)V" } : MethodName)) ∈ lw_tbl := tb_r (List.mem_of_getElem? (i := 515) (by decide +kernel))
theorem tb516 : (Cond.code ({ cls := "java/lang/String", name := "checkBoundsBeginEnd", desc := "(III)V" } : MethodName) prog_25_method_158_code (3 : Nat) (Option.none : Option FieldType)) ∈ lw_tbl := tb_r (List.mem_of_getElem? (i := 516) (by decide +kernel))
theorem tb519 : (Cond.methodLink "java/lang/String" (1062 : Nat) ({ cls := "jdk/internal/util/Preconditions", name := "checkFromToIndex", desc := "(IIILjava/util/function/BiFunction;)I" } : MethodName)) ∈ lw_tbl := tb_r (List.mem_of_getElem? (i := 519) (by decide +kernel))
theorem tb520 : (Cond.static ({ cls := "jdk/internal/util/Preconditions", name := "checkFromToIndex", desc := "(IIILjava/util/function/BiFunction;)I" } : MethodName)) ∈ lw_tbl := tb_r (List.mem_of_getElem? (i := 520) (by decide +kernel))
theorem tb521 : (Cond.code ({ cls := "jdk/internal/util/Preconditions", name := "checkFromToIndex", desc := "(IIILjava/util/function/BiFunction;)I" } : MethodName) prog_43_method_12_code (4 : Nat) (Option.some FieldType.int)) ∈ lw_tbl := tb_r (List.mem_of_getElem? (i := 521) (by decide +kernel))
theorem tb522 : (Cond.methodLink "java/lang/StringUTF16" (244 : Nat) ({ cls := "java/lang/StringUTF16", name := "indexOfCharUnsafe", desc := "([BIII)I" } : MethodName)) ∈ lw_tbl := tb_r (List.mem_of_getElem? (i := 522) (by decide +kernel))
theorem tb523 : (Cond.static ({ cls := "java/lang/StringUTF16", name := "indexOfCharUnsafe", desc := "([BIII)I" } : MethodName)) ∈ lw_tbl := tb_r (List.mem_of_getElem? (i := 523) (by decide +kernel))
theorem tb524 : (Cond.code ({ cls := "java/lang/StringUTF16", name := "indexOfCharUnsafe", desc := "([BIII)I" } : MethodName) prog_27_method_48_code (5 : Nat) (Option.some FieldType.int)) ∈ lw_tbl := tb_r (List.mem_of_getElem? (i := 524) (by decide +kernel))
theorem tb525 : (Cond.methodLink "java/lang/StringUTF16" (71 : Nat) ({ cls := "java/lang/StringUTF16", name := "getChar", desc := "([BI)C" } : MethodName)) ∈ lw_tbl := tb_r (List.mem_of_getElem? (i := 525) (by decide +kernel))
theorem tb526 : (Cond.static ({ cls := "java/lang/StringUTF16", name := "getChar", desc := "([BI)C" } : MethodName)) ∈ lw_tbl := tb_r (List.mem_of_getElem? (i := 526) (by decide +kernel))
theorem tb527 : (Cond.code ({ cls := "java/lang/StringUTF16", name := "getChar", desc := "([BI)C" } : MethodName) prog_27_method_5_code (2 : Nat) (Option.some FieldType.char)) ∈ lw_tbl := tb_r (List.mem_of_getElem? (i := 527) (by decide +kernel))
theorem tb534 : (Cond.methodLink "java/lang/StringUTF16" (232 : Nat) ({ cls := "java/lang/StringUTF16", name := "indexOfSupplementary", desc := "([BIII)I" } : MethodName)) ∈ lw_tbl := tb_r (List.mem_of_getElem? (i := 534) (by decide +kernel))
theorem tb535 : (Cond.static ({ cls := "java/lang/StringUTF16", name := "indexOfSupplementary", desc := "([BIII)I" } : MethodName)) ∈ lw_tbl := tb_r (List.mem_of_getElem? (i := 535) (by decide +kernel))
theorem tb536 : (Cond.code ({ cls := "java/lang/StringUTF16", name := "indexOfSupplementary", desc := "([BIII)I" } : MethodName) prog_27_method_49_code (7 : Nat) (Option.some FieldType.int)) ∈ lw_tbl := tb_r (List.mem_of_getElem? (i := 536) (by decide +kernel))
theorem tb537 : (Cond.methodLink "java/lang/StringUTF16" (164 : Nat) ({ cls := "java/lang/Character", name := "isValidCodePoint", desc := "(I)Z" } : MethodName)) ∈ lw_tbl := tb_r (List.mem_of_getElem? (i := 537) (by decide +kernel))
theorem tb538 : (Cond.static ({ cls := "java/lang/Character", name := "isValidCodePoint", desc := "(I)Z" } : MethodName)) ∈ lw_tbl := tb_r (List.mem_of_getElem? (i := 538) (by decide +kernel))
theorem tb539 : (Cond.code ({ cls := "java/lang/Character", name := "isValidCodePoint", desc := "(I)Z" } : MethodName) prog_17_method_11_code (2 : Nat) (Option.some FieldType.boolean)) ∈ lw_tbl := tb_r (List.mem_of_getElem? (i := 539) (by decide +kernel))
theorem tb540 : (Cond.methodLink "java/lang/StringUTF16" (157 : Nat) ({ cls := "java/lang/Character", name := "highSurrogate", desc := "(I)C" } : MethodName)) ∈ lw_tbl := tb_r (List.mem_of_getElem? (i := 540) (by decide +kernel))
theorem tb541 : (Cond.static ({ cls := "java/lang/Character", name := "highSurrogate", desc := "(I)C" } : MethodName)) ∈ lw_tbl := tb_r (List.mem_of_getElem? (i := 541) (by decide +kernel))
theorem tb542 : (Cond.code ({ cls := "java/lang/Character", name := "highSurrogate", desc := "(I)C" } : MethodName) prog_17_method_28_code (1 : Nat) (Option.some FieldType.char)) ∈ lw_tbl := tb_r (List.mem_of_getElem? (i := 542) (by decide +kernel))
theorem tb543 : (Cond.constant "java/lang/Character" (110 : Nat) (55232 : Int32)) ∈ lw_tbl := tb_r (List.mem_of_getElem? (i := 543) (by decide +kernel))
theorem tb544 : (Cond.methodLink "java/lang/StringUTF16" (161 : Nat) ({ cls := "java/lang/Character", name := "lowSurrogate", desc := "(I)C" } : MethodName)) ∈ lw_tbl := tb_r (List.mem_of_getElem? (i := 544) (by decide +kernel))
theorem tb545 : (Cond.static ({ cls := "java/lang/Character", name := "lowSurrogate", desc := "(I)C" } : MethodName)) ∈ lw_tbl := tb_r (List.mem_of_getElem? (i := 545) (by decide +kernel))
theorem tb546 : (Cond.code ({ cls := "java/lang/Character", name := "lowSurrogate", desc := "(I)C" } : MethodName) prog_17_method_29_code (1 : Nat) (Option.some FieldType.char)) ∈ lw_tbl := tb_r (List.mem_of_getElem? (i := 546) (by decide +kernel))
theorem tb547 : (Cond.constant "java/lang/Character" (76 : Nat) (56320 : Int32)) ∈ lw_tbl := tb_r (List.mem_of_getElem? (i := 547) (by decide +kernel))
theorem tb548 : (Cond.methodLink "DiaryHouse$Tape" (52 : Nat) ({ cls := "DiaryHouse$Tape", name := "takeSign", desc := "()C" } : MethodName)) ∈ lw_tbl := tb_r (List.mem_of_getElem? (i := 548) (by decide +kernel))
theorem tb550 : (Cond.instanceMethod ({ cls := "DiaryHouse$Tape", name := "takeSign", desc := "()C" } : MethodName)) ∈ lw_tbl := tb_r (List.mem_of_getElem? (i := 550) (by decide +kernel))
theorem tb551 : (Cond.code ({ cls := "DiaryHouse$Tape", name := "takeSign", desc := "()C" } : MethodName) prog_11_method_20_code (1 : Nat) (Option.some FieldType.char)) ∈ lw_tbl := tb_r (List.mem_of_getElem? (i := 551) (by decide +kernel))
theorem tb552 : (Cond.methodLink "DiaryHouse$Tape" (56 : Nat) ({ cls := "DiaryHouse$Tape", name := "addCode", desc := "(I)V" } : MethodName)) ∈ lw_tbl := tb_r (List.mem_of_getElem? (i := 552) (by decide +kernel))
theorem tb554 : (Cond.instanceMethod ({ cls := "DiaryHouse$Tape", name := "addCode", desc := "(I)V" } : MethodName)) ∈ lw_tbl := tb_r (List.mem_of_getElem? (i := 554) (by decide +kernel))
theorem tb555 : (Cond.code ({ cls := "DiaryHouse$Tape", name := "addCode", desc := "(I)V" } : MethodName) prog_11_method_21_code (2 : Nat) (Option.none : Option FieldType)) ∈ lw_tbl := tb_r (List.mem_of_getElem? (i := 555) (by decide +kernel))
theorem tb557 : (Cond.methodLink "DiaryHouse$Tape" (41 : Nat) ({ cls := "DiaryHouse$Tape", name := "take", desc := "(Ljava/lang/String;)Z" } : MethodName)) ∈ lw_tbl := tb_r (List.mem_of_getElem? (i := 557) (by decide +kernel))
theorem tb559 : (Cond.instanceMethod ({ cls := "DiaryHouse$Tape", name := "take", desc := "(Ljava/lang/String;)Z" } : MethodName)) ∈ lw_tbl := tb_r (List.mem_of_getElem? (i := 559) (by decide +kernel))
theorem tb560 : (Cond.code ({ cls := "DiaryHouse$Tape", name := "take", desc := "(Ljava/lang/String;)Z" } : MethodName) prog_11_method_19_code (3 : Nat) (Option.some FieldType.boolean)) ∈ lw_tbl := tb_r (List.mem_of_getElem? (i := 560) (by decide +kernel))
theorem tb562 : (Cond.methodLink "DiaryHouse$Tape" (64 : Nat) ({ cls := "DiaryHouse$Tape", name := "readCondition", desc := "(I)Z" } : MethodName)) ∈ lw_tbl := tb_r (List.mem_of_getElem? (i := 562) (by decide +kernel))
theorem tb564 : (Cond.instanceMethod ({ cls := "DiaryHouse$Tape", name := "readCondition", desc := "(I)Z" } : MethodName)) ∈ lw_tbl := tb_r (List.mem_of_getElem? (i := 564) (by decide +kernel))
theorem tb565 : (Cond.code ({ cls := "DiaryHouse$Tape", name := "readCondition", desc := "(I)Z" } : MethodName) prog_11_method_8_code (2 : Nat) (Option.some FieldType.boolean)) ∈ lw_tbl := tb_r (List.mem_of_getElem? (i := 565) (by decide +kernel))
theorem tb566 : (Cond.methodLink "DiaryHouse$Tape" (84 : Nat) ({ cls := "DiaryHouse$Tape", name := "readPart", desc := "(I)Z" } : MethodName)) ∈ lw_tbl := tb_r (List.mem_of_getElem? (i := 566) (by decide +kernel))
theorem tb568 : (Cond.instanceMethod ({ cls := "DiaryHouse$Tape", name := "readPart", desc := "(I)Z" } : MethodName)) ∈ lw_tbl := tb_r (List.mem_of_getElem? (i := 568) (by decide +kernel))
theorem tb569 : (Cond.code ({ cls := "DiaryHouse$Tape", name := "readPart", desc := "(I)Z" } : MethodName) prog_11_method_10_code (2 : Nat) (Option.some FieldType.boolean)) ∈ lw_tbl := tb_r (List.mem_of_getElem? (i := 569) (by decide +kernel))
theorem tb570 : (Cond.methodLink "DiaryHouse$Tape" (89 : Nat) ({ cls := "DiaryHouse$Tape", name := "readUnit", desc := "(I)Z" } : MethodName)) ∈ lw_tbl := tb_r (List.mem_of_getElem? (i := 570) (by decide +kernel))
theorem tb572 : (Cond.instanceMethod ({ cls := "DiaryHouse$Tape", name := "readUnit", desc := "(I)Z" } : MethodName)) ∈ lw_tbl := tb_r (List.mem_of_getElem? (i := 572) (by decide +kernel))
theorem tb573 : (Cond.code ({ cls := "DiaryHouse$Tape", name := "readUnit", desc := "(I)Z" } : MethodName) prog_11_method_12_code (5 : Nat) (Option.some FieldType.boolean)) ∈ lw_tbl := tb_r (List.mem_of_getElem? (i := 573) (by decide +kernel))
theorem tb577 : (Cond.methodLink "DiaryHouse$Tape" (68 : Nat) ({ cls := "DiaryHouse$Tape", name := "readSum", desc := "(I)Z" } : MethodName)) ∈ lw_tbl := tb_r (List.mem_of_getElem? (i := 577) (by decide +kernel))
theorem tb579 : (Cond.instanceMethod ({ cls := "DiaryHouse$Tape", name := "readSum", desc := "(I)Z" } : MethodName)) ∈ lw_tbl := tb_r (List.mem_of_getElem? (i := 579) (by decide +kernel))
theorem tb580 : (Cond.code ({ cls := "DiaryHouse$Tape", name := "readSum", desc := "(I)Z" } : MethodName) prog_11_method_14_code (5 : Nat) (Option.some FieldType.boolean)) ∈ lw_tbl := tb_r (List.mem_of_getElem? (i := 580) (by decide +kernel))
theorem tb581 : (Cond.methodLink "DiaryHouse$Tape" (100 : Nat) ({ cls := "DiaryHouse$Tape", name := "readTerm", desc := "(I)Z" } : MethodName)) ∈ lw_tbl := tb_r (List.mem_of_getElem? (i := 581) (by decide +kernel))
theorem tb583 : (Cond.instanceMethod ({ cls := "DiaryHouse$Tape", name := "readTerm", desc := "(I)Z" } : MethodName)) ∈ lw_tbl := tb_r (List.mem_of_getElem? (i := 583) (by decide +kernel))
theorem tb584 : (Cond.code ({ cls := "DiaryHouse$Tape", name := "readTerm", desc := "(I)Z" } : MethodName) prog_11_method_15_code (5 : Nat) (Option.some FieldType.boolean)) ∈ lw_tbl := tb_r (List.mem_of_getElem? (i := 584) (by decide +kernel))
theorem tb585 : (Cond.methodLink "DiaryHouse$Tape" (105 : Nat) ({ cls := "DiaryHouse$Tape", name := "readAtom", desc := "(I)Z" } : MethodName)) ∈ lw_tbl := tb_r (List.mem_of_getElem? (i := 585) (by decide +kernel))
theorem tb587 : (Cond.instanceMethod ({ cls := "DiaryHouse$Tape", name := "readAtom", desc := "(I)Z" } : MethodName)) ∈ lw_tbl := tb_r (List.mem_of_getElem? (i := 587) (by decide +kernel))
theorem tb588 : (Cond.code ({ cls := "DiaryHouse$Tape", name := "readAtom", desc := "(I)Z" } : MethodName) prog_11_method_16_code (2 : Nat) (Option.some FieldType.boolean)) ∈ lw_tbl := tb_r (List.mem_of_getElem? (i := 588) (by decide +kernel))
theorem tb592 : (Cond.methodLink "DiaryHouse$Tape" (116 : Nat) ({ cls := "DiaryHouse$Tape", name := "readNumber", desc := "()Z" } : MethodName)) ∈ lw_tbl := tb_r (List.mem_of_getElem? (i := 592) (by decide +kernel))
theorem tb594 : (Cond.instanceMethod ({ cls := "DiaryHouse$Tape", name := "readNumber", desc := "()Z" } : MethodName)) ∈ lw_tbl := tb_r (List.mem_of_getElem? (i := 594) (by decide +kernel))
theorem tb595 : (Cond.code ({ cls := "DiaryHouse$Tape", name := "readNumber", desc := "()Z" } : MethodName) prog_11_method_17_code (3 : Nat) (Option.some FieldType.boolean)) ∈ lw_tbl := tb_r (List.mem_of_getElem? (i := 595) (by decide +kernel))
theorem tb596 : (Cond.methodLinkNest "DiaryHouse$Tape" (119 : Nat) ({ cls := "DiaryHouse", name := "isWithin", desc := "(III)Z" } : MethodName) "DiaryHouse") ∈ lw_tbl := tb_r (List.mem_of_getElem? (i := 596) (by decide +kernel))
theorem tb599 : (Cond.methodLink "DiaryHouse$Tape" (73 : Nat) ({ cls := "DiaryHouse$Tape", name := "readComparison", desc := "(I)Z" } : MethodName)) ∈ lw_tbl := tb_r (List.mem_of_getElem? (i := 599) (by decide +kernel))
theorem tb601 : (Cond.instanceMethod ({ cls := "DiaryHouse$Tape", name := "readComparison", desc := "(I)Z" } : MethodName)) ∈ lw_tbl := tb_r (List.mem_of_getElem? (i := 601) (by decide +kernel))
theorem tb602 : (Cond.code ({ cls := "DiaryHouse$Tape", name := "readComparison", desc := "(I)Z" } : MethodName) prog_11_method_13_code (3 : Nat) (Option.some FieldType.boolean)) ∈ lw_tbl := tb_r (List.mem_of_getElem? (i := 602) (by decide +kernel))
theorem tb604 : (Cond.methodLink "DiaryHouse$Tape" (76 : Nat) ({ cls := "DiaryHouse$Tape", name := "readMoreUnits", desc := "(I)Z" } : MethodName)) ∈ lw_tbl := tb_r (List.mem_of_getElem? (i := 604) (by decide +kernel))
theorem tb606 : (Cond.instanceMethod ({ cls := "DiaryHouse$Tape", name := "readMoreUnits", desc := "(I)Z" } : MethodName)) ∈ lw_tbl := tb_r (List.mem_of_getElem? (i := 606) (by decide +kernel))
theorem tb607 : (Cond.code ({ cls := "DiaryHouse$Tape", name := "readMoreUnits", desc := "(I)Z" } : MethodName) prog_11_method_11_code (4 : Nat) (Option.some FieldType.boolean)) ∈ lw_tbl := tb_r (List.mem_of_getElem? (i := 607) (by decide +kernel))
theorem tb609 : (Cond.methodLink "DiaryHouse$Tape" (79 : Nat) ({ cls := "DiaryHouse$Tape", name := "readMoreParts", desc := "(I)Z" } : MethodName)) ∈ lw_tbl := tb_r (List.mem_of_getElem? (i := 609) (by decide +kernel))
theorem tb611 : (Cond.instanceMethod ({ cls := "DiaryHouse$Tape", name := "readMoreParts", desc := "(I)Z" } : MethodName)) ∈ lw_tbl := tb_r (List.mem_of_getElem? (i := 611) (by decide +kernel))
theorem tb612 : (Cond.code ({ cls := "DiaryHouse$Tape", name := "readMoreParts", desc := "(I)Z" } : MethodName) prog_11_method_9_code (4 : Nat) (Option.some FieldType.boolean)) ∈ lw_tbl := tb_r (List.mem_of_getElem? (i := 612) (by decide +kernel))
theorem tb616 : (Cond.methodLink "DiaryHouseLaw" (67 : Nat) ({ cls := "DiaryHouse", name := "rule", desc := "(I)I" } : MethodName)) ∈ lw_tbl := tb_r (List.mem_of_getElem? (i := 616) (by decide +kernel))
theorem tb617 : (Cond.instanceMethod ({ cls := "DiaryHouse", name := "rule", desc := "(I)I" } : MethodName)) ∈ lw_tbl := tb_r (List.mem_of_getElem? (i := 617) (by decide +kernel))
theorem tb618 : (Cond.selects "DiaryHouse" ({ cls := "DiaryHouse", name := "rule", desc := "(I)I" } : MethodName) ({ cls := "DiaryHouse", name := "rule", desc := "(I)I" } : MethodName)) ∈ lw_tbl := tb_r (List.mem_of_getElem? (i := 618) (by decide +kernel))
theorem tb619 : (Cond.code ({ cls := "DiaryHouse", name := "rule", desc := "(I)I" } : MethodName) prog_1_method_15_code (2 : Nat) (Option.some FieldType.int)) ∈ lw_tbl := tb_r (List.mem_of_getElem? (i := 619) (by decide +kernel))
theorem tb620 : (Cond.classLink "DiaryHouse" (188 : Nat) "DiaryHouse$Rule") ∈ lw_tbl := tb_r (List.mem_of_getElem? (i := 620) (by decide +kernel))
theorem tb622 : (Cond.methodLink "DiaryHouse" (190 : Nat) ({ cls := "DiaryHouse$Tape", name := "codesRead", desc := "()[I" } : MethodName)) ∈ lw_tbl := tb_r (List.mem_of_getElem? (i := 622) (by decide +kernel))
theorem tb623 : (Cond.instanceMethod ({ cls := "DiaryHouse$Tape", name := "codesRead", desc := "()[I" } : MethodName)) ∈ lw_tbl := tb_r (List.mem_of_getElem? (i := 623) (by decide +kernel))
theorem tb624 : (Cond.selects "DiaryHouse$Tape" ({ cls := "DiaryHouse$Tape", name := "codesRead", desc := "()[I" } : MethodName) ({ cls := "DiaryHouse$Tape", name := "codesRead", desc := "()[I" } : MethodName)) ∈ lw_tbl := tb_r (List.mem_of_getElem? (i := 624) (by decide +kernel))
theorem tb625 : (Cond.code ({ cls := "DiaryHouse$Tape", name := "codesRead", desc := "()[I" } : MethodName) prog_11_method_5_code (1 : Nat) (Option.some (FieldType.array FieldType.int))) ∈ lw_tbl := tb_r (List.mem_of_getElem? (i := 625) (by decide +kernel))
theorem tb626 : (Cond.methodLink "DiaryHouse$Tape" (26 : Nat) ({ cls := "java/util/Arrays", name := "copyOf", desc := "([II)[I" } : MethodName)) ∈ lw_tbl := tb_r (List.mem_of_getElem? (i := 626) (by decide +kernel))
theorem tb627 : (Cond.static ({ cls := "java/util/Arrays", name := "copyOf", desc := "([II)[I" } : MethodName)) ∈ lw_tbl := tb_r (List.mem_of_getElem? (i := 627) (by decide +kernel))
theorem tb628 : (Cond.code ({ cls := "java/util/Arrays", name := "copyOf", desc := "([II)[I" } : MethodName) prog_35_method_123_code (3 : Nat) (Option.some (FieldType.array FieldType.int))) ∈ lw_tbl := tb_r (List.mem_of_getElem? (i := 628) (by decide +kernel))
theorem tb629 : (Cond.methodLink "java/util/Arrays" (316 : Nat) ({ cls := "[I", name := "clone", desc := "()Ljava/lang/Object;" } : MethodName)) ∈ lw_tbl := tb_r (List.mem_of_getElem? (i := 629) (by decide +kernel))
theorem tb635 : (Cond.classLink "java/util/Arrays" (317 : Nat) "[I") ∈ lw_tbl := tb_r (List.mem_of_getElem? (i := 635) (by decide +kernel))
theorem tb636 : (Cond.methodLink "DiaryHouse" (194 : Nat) ({ cls := "DiaryHouse$Rule", name := "<init>", desc := "(II[I)V" } : MethodName)) ∈ lw_tbl := tb_r (List.mem_of_getElem? (i := 636) (by decide +kernel))
theorem tb637 : (Cond.instanceMethod ({ cls := "DiaryHouse$Rule", name := "<init>", desc := "(II[I)V" } : MethodName)) ∈ lw_tbl := tb_r (List.mem_of_getElem? (i := 637) (by decide +kernel))
theorem tb638 : (Cond.code ({ cls := "DiaryHouse$Rule", name := "<init>", desc := "(II[I)V" } : MethodName) prog_8_method_1_code (4 : Nat) (Option.none : Option FieldType)) ∈ lw_tbl := tb_r (List.mem_of_getElem? (i := 638) (by decide +kernel))
theorem tb639 : (Cond.methodLink "DiaryHouse$Rule" (3 : Nat) ({ cls := "java/lang/Object", name := "<init>", desc := "()V" } : MethodName)) ∈ lw_tbl := tb_r (List.mem_of_getElem? (i := 639) (by decide +kernel))
theorem tb640 : (Cond.fieldLink "DiaryHouse$Rule" (9 : Nat) "DiaryHouse$Rule" "from" "I") ∈ lw_tbl := tb_r (List.mem_of_getElem? (i := 640) (by decide +kernel))
theorem tb641 : (Cond.fieldLinkNest "DiaryHouse" (201 : Nat) "DiaryHouse$Rule" "from" "I" "DiaryHouse") ∈ lw_tbl := tb_r (List.mem_of_getElem? (i := 641) (by decide +kernel))
theorem tb642 : (Cond.fieldLink "DiaryHouse$Rule" (15 : Nat) "DiaryHouse$Rule" "told" "I") ∈ lw_tbl := tb_r (List.mem_of_getElem? (i := 642) (by decide +kernel))
theorem tb643 : (Cond.fieldLinkNest "DiaryHouse" (200 : Nat) "DiaryHouse$Rule" "told" "I" "DiaryHouse") ∈ lw_tbl := tb_r (List.mem_of_getElem? (i := 643) (by decide +kernel))
theorem tb644 : (Cond.fieldLink "DiaryHouse$Rule" (18 : Nat) "DiaryHouse$Rule" "codes" "[I") ∈ lw_tbl := tb_r (List.mem_of_getElem? (i := 644) (by decide +kernel))
theorem tb652 : (Cond.methodLink "DiaryHouseLaw" (71 : Nat) ({ cls := "DiaryHouse", name := "force", desc := "(II)I" } : MethodName)) ∈ lw_tbl := tb_r (List.mem_of_getElem? (i := 652) (by decide +kernel))
theorem tb653 : (Cond.instanceMethod ({ cls := "DiaryHouse", name := "force", desc := "(II)I" } : MethodName)) ∈ lw_tbl := tb_r (List.mem_of_getElem? (i := 653) (by decide +kernel))
theorem tb654 : (Cond.selects "DiaryHouse" ({ cls := "DiaryHouse", name := "force", desc := "(II)I" } : MethodName) ({ cls := "DiaryHouse", name := "force", desc := "(II)I" } : MethodName)) ∈ lw_tbl := tb_r (List.mem_of_getElem? (i := 654) (by decide +kernel))
theorem tb655 : (Cond.code ({ cls := "DiaryHouse", name := "force", desc := "(II)I" } : MethodName) prog_1_method_16_code (3 : Nat) (Option.some FieldType.int)) ∈ lw_tbl := tb_r (List.mem_of_getElem? (i := 655) (by decide +kernel))
theorem tb656 : (Cond.methodLink "DiaryHouse" (197 : Nat) ({ cls := "DiaryHouse", name := "ruleInForce", desc := "(II)I" } : MethodName)) ∈ lw_tbl := tb_r (List.mem_of_getElem? (i := 656) (by decide +kernel))
theorem tb658 : (Cond.instanceMethod ({ cls := "DiaryHouse", name := "ruleInForce", desc := "(II)I" } : MethodName)) ∈ lw_tbl := tb_r (List.mem_of_getElem? (i := 658) (by decide +kernel))
theorem tb659 : (Cond.code ({ cls := "DiaryHouse", name := "ruleInForce", desc := "(II)I" } : MethodName) prog_1_method_17_code (7 : Nat) (Option.some FieldType.int)) ∈ lw_tbl := tb_r (List.mem_of_getElem? (i := 659) (by decide +kernel))
theorem tb660 : (Cond.methodLink "DiaryHouseLaw" (75 : Nat) ({ cls := "DiaryHouse", name := "asked", desc := "(IIII)I" } : MethodName)) ∈ lw_tbl := tb_r (List.mem_of_getElem? (i := 660) (by decide +kernel))
theorem tb661 : (Cond.instanceMethod ({ cls := "DiaryHouse", name := "asked", desc := "(IIII)I" } : MethodName)) ∈ lw_tbl := tb_r (List.mem_of_getElem? (i := 661) (by decide +kernel))
theorem tb662 : (Cond.selects "DiaryHouse" ({ cls := "DiaryHouse", name := "asked", desc := "(IIII)I" } : MethodName) ({ cls := "DiaryHouse", name := "asked", desc := "(IIII)I" } : MethodName)) ∈ lw_tbl := tb_r (List.mem_of_getElem? (i := 662) (by decide +kernel))
theorem tb663 : (Cond.code ({ cls := "DiaryHouse", name := "asked", desc := "(IIII)I" } : MethodName) prog_1_method_19_code (5 : Nat) (Option.some FieldType.int)) ∈ lw_tbl := tb_r (List.mem_of_getElem? (i := 663) (by decide +kernel))
theorem tb664 : (Cond.methodLink "DiaryHouse" (208 : Nat) ({ cls := "DiaryHouse", name := "setPersonLetters", desc := "(LDiaryHouse$Person;)V" } : MethodName)) ∈ lw_tbl := tb_r (List.mem_of_getElem? (i := 664) (by decide +kernel))
theorem tb666 : (Cond.instanceMethod ({ cls := "DiaryHouse", name := "setPersonLetters", desc := "(LDiaryHouse$Person;)V" } : MethodName)) ∈ lw_tbl := tb_r (List.mem_of_getElem? (i := 666) (by decide +kernel))
theorem tb667 : (Cond.code ({ cls := "DiaryHouse", name := "setPersonLetters", desc := "(LDiaryHouse$Person;)V" } : MethodName) prog_1_method_20_code (2 : Nat) (Option.none : Option FieldType)) ∈ lw_tbl := tb_r (List.mem_of_getElem? (i := 667) (by decide +kernel))
theorem tb668 : (Cond.methodLink "DiaryHouse" (216 : Nat) ({ cls := "java/util/Arrays", name := "fill", desc := "([II)V" } : MethodName)) ∈ lw_tbl := tb_r (List.mem_of_getElem? (i := 668) (by decide +kernel))
theorem tb669 : (Cond.static ({ cls := "java/util/Arrays", name := "fill", desc := "([II)V" } : MethodName)) ∈ lw_tbl := tb_r (List.mem_of_getElem? (i := 669) (by decide +kernel))
theorem tb670 : (Cond.code ({ cls := "java/util/Arrays", name := "fill", desc := "([II)V" } : MethodName) prog_35_method_103_code (4 : Nat) (Option.none : Option FieldType)) ∈ lw_tbl := tb_r (List.mem_of_getElem? (i := 670) (by decide +kernel))
theorem tb671 : (Cond.methodLink "DiaryHouse" (212 : Nat) ({ cls := "DiaryHouse", name := "worthOf", desc := "(CI)I" } : MethodName)) ∈ lw_tbl := tb_r (List.mem_of_getElem? (i := 671) (by decide +kernel))
theorem tb673 : (Cond.instanceMethod ({ cls := "DiaryHouse", name := "worthOf", desc := "(CI)I" } : MethodName)) ∈ lw_tbl := tb_r (List.mem_of_getElem? (i := 673) (by decide +kernel))
theorem tb674 : (Cond.code ({ cls := "DiaryHouse", name := "worthOf", desc := "(CI)I" } : MethodName) prog_1_method_18_code (3 : Nat) (Option.some FieldType.int)) ∈ lw_tbl := tb_r (List.mem_of_getElem? (i := 674) (by decide +kernel))
theorem tb675 : (Cond.methodLink "DiaryHouse" (204 : Nat) ({ cls := "DiaryHouse$Rule", name := "worth", desc := "(C[ILDiaryHouse$Numbers;)I" } : MethodName)) ∈ lw_tbl := tb_r (List.mem_of_getElem? (i := 675) (by decide +kernel))
theorem tb676 : (Cond.instanceMethod ({ cls := "DiaryHouse$Rule", name := "worth", desc := "(C[ILDiaryHouse$Numbers;)I" } : MethodName)) ∈ lw_tbl := tb_r (List.mem_of_getElem? (i := 676) (by decide +kernel))
theorem tb677 : (Cond.selects "DiaryHouse$Rule" ({ cls := "DiaryHouse$Rule", name := "worth", desc := "(C[ILDiaryHouse$Numbers;)I" } : MethodName) ({ cls := "DiaryHouse$Rule", name := "worth", desc := "(C[ILDiaryHouse$Numbers;)I" } : MethodName)) ∈ lw_tbl := tb_r (List.mem_of_getElem? (i := 677) (by decide +kernel))
theorem tb678 : (Cond.code ({ cls := "DiaryHouse$Rule", name := "worth", desc := "(C[ILDiaryHouse$Numbers;)I" } : MethodName) prog_8_method_2_code (9 : Nat) (Option.some FieldType.int)) ∈ lw_tbl := tb_r (List.mem_of_getElem? (i := 678) (by decide +kernel))
theorem tb679 : (Cond.methodLink "DiaryHouse$Rule" (22 : Nat) ({ cls := "DiaryHouse$Numbers", name := "clear", desc := "()V" } : MethodName)) ∈ lw_tbl := tb_r (List.mem_of_getElem? (i := 679) (by decide +kernel))
theorem tb680 : (Cond.instanceMethod ({ cls := "DiaryHouse$Numbers", name := "clear", desc := "()V" } : MethodName)) ∈ lw_tbl := tb_r (List.mem_of_getElem? (i := 680) (by decide +kernel))
theorem tb681 : (Cond.selects "DiaryHouse$Numbers" ({ cls := "DiaryHouse$Numbers", name := "clear", desc := "()V" } : MethodName) ({ cls := "DiaryHouse$Numbers", name := "clear", desc := "()V" } : MethodName)) ∈ lw_tbl := tb_r (List.mem_of_getElem? (i := 681) (by decide +kernel))
theorem tb682 : (Cond.code ({ cls := "DiaryHouse$Numbers", name := "clear", desc := "()V" } : MethodName) prog_5_method_2_code (1 : Nat) (Option.none : Option FieldType)) ∈ lw_tbl := tb_r (List.mem_of_getElem? (i := 682) (by decide +kernel))
theorem tb684 : (Cond.methodLink "DiaryHouse$Rule" (29 : Nat) ({ cls := "java/lang/String", name := "indexOf", desc := "(I)I" } : MethodName)) ∈ lw_tbl := tb_r (List.mem_of_getElem? (i := 684) (by decide +kernel))
theorem tb685 : (Cond.methodLink "DiaryHouse$Rule" (35 : Nat) ({ cls := "DiaryHouse$Numbers", name := "pop", desc := "()I" } : MethodName)) ∈ lw_tbl := tb_r (List.mem_of_getElem? (i := 685) (by decide +kernel))
theorem tb686 : (Cond.instanceMethod ({ cls := "DiaryHouse$Numbers", name := "pop", desc := "()I" } : MethodName)) ∈ lw_tbl := tb_r (List.mem_of_getElem? (i := 686) (by decide +kernel))
theorem tb687 : (Cond.selects "DiaryHouse$Numbers" ({ cls := "DiaryHouse$Numbers", name := "pop", desc := "()I" } : MethodName) ({ cls := "DiaryHouse$Numbers", name := "pop", desc := "()I" } : MethodName)) ∈ lw_tbl := tb_r (List.mem_of_getElem? (i := 687) (by decide +kernel))
theorem tb688 : (Cond.code ({ cls := "DiaryHouse$Numbers", name := "pop", desc := "()I" } : MethodName) prog_5_method_4_code (1 : Nat) (Option.some FieldType.int)) ∈ lw_tbl := tb_r (List.mem_of_getElem? (i := 688) (by decide +kernel))
theorem tb689 : (Cond.methodLink "DiaryHouse$Rule" (39 : Nat) ({ cls := "DiaryHouse$Rule", name := "work", desc := "(I[ILDiaryHouse$Numbers;)V" } : MethodName)) ∈ lw_tbl := tb_r (List.mem_of_getElem? (i := 689) (by decide +kernel))
theorem tb690 : (Cond.static ({ cls := "DiaryHouse$Rule", name := "work", desc := "(I[ILDiaryHouse$Numbers;)V" } : MethodName)) ∈ lw_tbl := tb_r (List.mem_of_getElem? (i := 690) (by decide +kernel))
theorem tb691 : (Cond.code ({ cls := "DiaryHouse$Rule", name := "work", desc := "(I[ILDiaryHouse$Numbers;)V" } : MethodName) prog_8_method_3_code (7 : Nat) (Option.none : Option FieldType)) ∈ lw_tbl := tb_r (List.mem_of_getElem? (i := 691) (by decide +kernel))
theorem tb692 : (Cond.methodLink "DiaryHouse$Rule" (43 : Nat) ({ cls := "DiaryHouse$Numbers", name := "push", desc := "(I)V" } : MethodName)) ∈ lw_tbl := tb_r (List.mem_of_getElem? (i := 692) (by decide +kernel))
theorem tb693 : (Cond.instanceMethod ({ cls := "DiaryHouse$Numbers", name := "push", desc := "(I)V" } : MethodName)) ∈ lw_tbl := tb_r (List.mem_of_getElem? (i := 693) (by decide +kernel))
theorem tb694 : (Cond.selects "DiaryHouse$Numbers" ({ cls := "DiaryHouse$Numbers", name := "push", desc := "(I)V" } : MethodName) ({ cls := "DiaryHouse$Numbers", name := "push", desc := "(I)V" } : MethodName)) ∈ lw_tbl := tb_r (List.mem_of_getElem? (i := 694) (by decide +kernel))
theorem tb695 : (Cond.code ({ cls := "DiaryHouse$Numbers", name := "push", desc := "(I)V" } : MethodName) prog_5_method_3_code (2 : Nat) (Option.none : Option FieldType)) ∈ lw_tbl := tb_r (List.mem_of_getElem? (i := 695) (by decide +kernel))
theorem tb697 : (Cond.methodLink "DiaryHouse$Rule" (49 : Nat) ({ cls := "DiaryHouse$Rule", name := "joined", desc := "(CII)I" } : MethodName)) ∈ lw_tbl := tb_r (List.mem_of_getElem? (i := 697) (by decide +kernel))
theorem tb698 : (Cond.static ({ cls := "DiaryHouse$Rule", name := "joined", desc := "(CII)I" } : MethodName)) ∈ lw_tbl := tb_r (List.mem_of_getElem? (i := 698) (by decide +kernel))
theorem tb699 : (Cond.code ({ cls := "DiaryHouse$Rule", name := "joined", desc := "(CII)I" } : MethodName) prog_8_method_4_code (5 : Nat) (Option.some FieldType.int)) ∈ lw_tbl := tb_r (List.mem_of_getElem? (i := 699) (by decide +kernel))
theorem tb700 : (Cond.constantLong "DiaryHouse$Rule" (53 : Nat) (-1000000 : Int64)) ∈ lw_tbl := tb_r (List.mem_of_getElem? (i := 700) (by decide +kernel))
theorem tb701 : (Cond.constantLong "DiaryHouse$Rule" (55 : Nat) (1000000 : Int64)) ∈ lw_tbl := tb_r (List.mem_of_getElem? (i := 701) (by decide +kernel))
theorem tb702 : (Cond.methodLink "DiaryHouse$Rule" (57 : Nat) ({ cls := "java/lang/Math", name := "min", desc := "(JJ)J" } : MethodName)) ∈ lw_tbl := tb_r (List.mem_of_getElem? (i := 702) (by decide +kernel))
theorem tb703 : (Cond.static ({ cls := "java/lang/Math", name := "min", desc := "(JJ)J" } : MethodName)) ∈ lw_tbl := tb_r (List.mem_of_getElem? (i := 703) (by decide +kernel))
theorem tb704 : (Cond.code ({ cls := "java/lang/Math", name := "min", desc := "(JJ)J" } : MethodName) prog_23_method_70_code (4 : Nat) (Option.some FieldType.long)) ∈ lw_tbl := tb_r (List.mem_of_getElem? (i := 704) (by decide +kernel))
theorem tb705 : (Cond.methodLink "DiaryHouse$Rule" (63 : Nat) ({ cls := "java/lang/Math", name := "max", desc := "(JJ)J" } : MethodName)) ∈ lw_tbl := tb_r (List.mem_of_getElem? (i := 705) (by decide +kernel))
theorem tb706 : (Cond.static ({ cls := "java/lang/Math", name := "max", desc := "(JJ)J" } : MethodName)) ∈ lw_tbl := tb_r (List.mem_of_getElem? (i := 706) (by decide +kernel))
theorem tb707 : (Cond.code ({ cls := "java/lang/Math", name := "max", desc := "(JJ)J" } : MethodName) prog_23_method_66_code (4 : Nat) (Option.some FieldType.long)) ∈ lw_tbl := tb_r (List.mem_of_getElem? (i := 707) (by decide +kernel))
theorem tb708 : (Cond.methodLink "DiaryHouseLaw" (80 : Nat) ({ cls := "DiaryHouse", name := "shown", desc := "(IIII)I" } : MethodName)) ∈ lw_tbl := tb_r (List.mem_of_getElem? (i := 708) (by decide +kernel))
theorem tb709 : (Cond.instanceMethod ({ cls := "DiaryHouse", name := "shown", desc := "(IIII)I" } : MethodName)) ∈ lw_tbl := tb_r (List.mem_of_getElem? (i := 709) (by decide +kernel))
theorem tb710 : (Cond.selects "DiaryHouse" ({ cls := "DiaryHouse", name := "shown", desc := "(IIII)I" } : MethodName) ({ cls := "DiaryHouse", name := "shown", desc := "(IIII)I" } : MethodName)) ∈ lw_tbl := tb_r (List.mem_of_getElem? (i := 710) (by decide +kernel))
theorem tb711 : (Cond.code ({ cls := "DiaryHouse", name := "shown", desc := "(IIII)I" } : MethodName) prog_1_method_21_code (5 : Nat) (Option.some FieldType.int)) ∈ lw_tbl := tb_r (List.mem_of_getElem? (i := 711) (by decide +kernel))
theorem tb712 : (Cond.methodLink "DiaryHouse" (231 : Nat) ({ cls := "DiaryHouse", name := "isLineKnown", desc := "(II)Z" } : MethodName)) ∈ lw_tbl := tb_r (List.mem_of_getElem? (i := 712) (by decide +kernel))
theorem tb714 : (Cond.instanceMethod ({ cls := "DiaryHouse", name := "isLineKnown", desc := "(II)Z" } : MethodName)) ∈ lw_tbl := tb_r (List.mem_of_getElem? (i := 714) (by decide +kernel))
theorem tb715 : (Cond.code ({ cls := "DiaryHouse", name := "isLineKnown", desc := "(II)Z" } : MethodName) prog_1_method_78_code (3 : Nat) (Option.some FieldType.boolean)) ∈ lw_tbl := tb_r (List.mem_of_getElem? (i := 715) (by decide +kernel))
theorem tb716 : (Cond.methodLink "DiaryHouse" (136 : Nat) ({ cls := "DiaryHouse", name := "isLine", desc := "(I)Z" } : MethodName)) ∈ lw_tbl := tb_r (List.mem_of_getElem? (i := 716) (by decide +kernel))
theorem tb718 : (Cond.instanceMethod ({ cls := "DiaryHouse", name := "isLine", desc := "(I)Z" } : MethodName)) ∈ lw_tbl := tb_r (List.mem_of_getElem? (i := 718) (by decide +kernel))
theorem tb719 : (Cond.code ({ cls := "DiaryHouse", name := "isLine", desc := "(I)Z" } : MethodName) prog_1_method_77_code (2 : Nat) (Option.some FieldType.boolean)) ∈ lw_tbl := tb_r (List.mem_of_getElem? (i := 719) (by decide +kernel))
theorem tb720 : (Cond.methodLink "DiaryHouse" (235 : Nat) ({ cls := "DiaryHouse", name := "isRank", desc := "(I)Z" } : MethodName)) ∈ lw_tbl := tb_r (List.mem_of_getElem? (i := 720) (by decide +kernel))
theorem tb721 : (Cond.static ({ cls := "DiaryHouse", name := "isRank", desc := "(I)Z" } : MethodName)) ∈ lw_tbl := tb_r (List.mem_of_getElem? (i := 721) (by decide +kernel))
theorem tb722 : (Cond.code ({ cls := "DiaryHouse", name := "isRank", desc := "(I)Z" } : MethodName) prog_1_method_82_code (1 : Nat) (Option.some FieldType.boolean)) ∈ lw_tbl := tb_r (List.mem_of_getElem? (i := 722) (by decide +kernel))
theorem tb723 : (Cond.methodLink "DiaryHouse" (239 : Nat) ({ cls := "DiaryHouse", name := "mayBeShown", desc := "(LDiaryHouse$Line;III)Z" } : MethodName)) ∈ lw_tbl := tb_r (List.mem_of_getElem? (i := 723) (by decide +kernel))
theorem tb725 : (Cond.instanceMethod ({ cls := "DiaryHouse", name := "mayBeShown", desc := "(LDiaryHouse$Line;III)Z" } : MethodName)) ∈ lw_tbl := tb_r (List.mem_of_getElem? (i := 725) (by decide +kernel))
theorem tb726 : (Cond.code ({ cls := "DiaryHouse", name := "mayBeShown", desc := "(LDiaryHouse$Line;III)Z" } : MethodName) prog_1_method_22_code (5 : Nat) (Option.some FieldType.boolean)) ∈ lw_tbl := tb_r (List.mem_of_getElem? (i := 726) (by decide +kernel))
theorem tb727 : (Cond.methodLink "DiaryHouseLaw" (84 : Nat) ({ cls := "DiaryHouse", name := "digest", desc := "(IIIII)I" } : MethodName)) ∈ lw_tbl := tb_r (List.mem_of_getElem? (i := 727) (by decide +kernel))
theorem tb728 : (Cond.instanceMethod ({ cls := "DiaryHouse", name := "digest", desc := "(IIIII)I" } : MethodName)) ∈ lw_tbl := tb_r (List.mem_of_getElem? (i := 728) (by decide +kernel))
theorem tb729 : (Cond.selects "DiaryHouse" ({ cls := "DiaryHouse", name := "digest", desc := "(IIIII)I" } : MethodName) ({ cls := "DiaryHouse", name := "digest", desc := "(IIIII)I" } : MethodName)) ∈ lw_tbl := tb_r (List.mem_of_getElem? (i := 729) (by decide +kernel))
theorem tb730 : (Cond.code ({ cls := "DiaryHouse", name := "digest", desc := "(IIIII)I" } : MethodName) prog_1_method_23_code (7 : Nat) (Option.some FieldType.int)) ∈ lw_tbl := tb_r (List.mem_of_getElem? (i := 730) (by decide +kernel))
theorem tb731 : (Cond.methodLink "DiaryHouse" (253 : Nat) ({ cls := "DiaryHouse", name := "isDigest", desc := "(IIII)Z" } : MethodName)) ∈ lw_tbl := tb_r (List.mem_of_getElem? (i := 731) (by decide +kernel))
theorem tb733 : (Cond.instanceMethod ({ cls := "DiaryHouse", name := "isDigest", desc := "(IIII)Z" } : MethodName)) ∈ lw_tbl := tb_r (List.mem_of_getElem? (i := 733) (by decide +kernel))
theorem tb734 : (Cond.code ({ cls := "DiaryHouse", name := "isDigest", desc := "(IIII)Z" } : MethodName) prog_1_method_25_code (5 : Nat) (Option.some FieldType.boolean)) ∈ lw_tbl := tb_r (List.mem_of_getElem? (i := 734) (by decide +kernel))
theorem tb735 : (Cond.methodLink "DiaryHouse" (257 : Nat) ({ cls := "DiaryHouse", name := "pickDigest", desc := "(IIII)I" } : MethodName)) ∈ lw_tbl := tb_r (List.mem_of_getElem? (i := 735) (by decide +kernel))
theorem tb737 : (Cond.instanceMethod ({ cls := "DiaryHouse", name := "pickDigest", desc := "(IIII)I" } : MethodName)) ∈ lw_tbl := tb_r (List.mem_of_getElem? (i := 737) (by decide +kernel))
theorem tb738 : (Cond.code ({ cls := "DiaryHouse", name := "pickDigest", desc := "(IIII)I" } : MethodName) prog_1_method_27_code (10 : Nat) (Option.some FieldType.int)) ∈ lw_tbl := tb_r (List.mem_of_getElem? (i := 738) (by decide +kernel))
theorem tb739 : (Cond.methodLink "DiaryHouse" (267 : Nat) ({ cls := "DiaryHouse", name := "digestSize", desc := "(III)I" } : MethodName)) ∈ lw_tbl := tb_r (List.mem_of_getElem? (i := 739) (by decide +kernel))
theorem tb741 : (Cond.instanceMethod ({ cls := "DiaryHouse", name := "digestSize", desc := "(III)I" } : MethodName)) ∈ lw_tbl := tb_r (List.mem_of_getElem? (i := 741) (by decide +kernel))
theorem tb742 : (Cond.code ({ cls := "DiaryHouse", name := "digestSize", desc := "(III)I" } : MethodName) prog_1_method_28_code (4 : Nat) (Option.some FieldType.int)) ∈ lw_tbl := tb_r (List.mem_of_getElem? (i := 742) (by decide +kernel))
theorem tb743 : (Cond.methodLink "DiaryHouse" (274 : Nat) ({ cls := "java/lang/Math", name := "min", desc := "(II)I" } : MethodName)) ∈ lw_tbl := tb_r (List.mem_of_getElem? (i := 743) (by decide +kernel))
theorem tb744 : (Cond.methodLink "DiaryHouse" (279 : Nat) ({ cls := "java/lang/Math", name := "max", desc := "(II)I" } : MethodName)) ∈ lw_tbl := tb_r (List.mem_of_getElem? (i := 744) (by decide +kernel))
theorem tb745 : (Cond.methodLink "DiaryHouse" (264 : Nat) ({ cls := "DiaryHouse$Line", name := "isFor", desc := "(II)Z" } : MethodName)) ∈ lw_tbl := tb_r (List.mem_of_getElem? (i := 745) (by decide +kernel))
theorem tb746 : (Cond.instanceMethod ({ cls := "DiaryHouse$Line", name := "isFor", desc := "(II)Z" } : MethodName)) ∈ lw_tbl := tb_r (List.mem_of_getElem? (i := 746) (by decide +kernel))
theorem tb747 : (Cond.selects "DiaryHouse$Line" ({ cls := "DiaryHouse$Line", name := "isFor", desc := "(II)Z" } : MethodName) ({ cls := "DiaryHouse$Line", name := "isFor", desc := "(II)Z" } : MethodName)) ∈ lw_tbl := tb_r (List.mem_of_getElem? (i := 747) (by decide +kernel))
theorem tb748 : (Cond.code ({ cls := "DiaryHouse$Line", name := "isFor", desc := "(II)Z" } : MethodName) prog_3_method_2_code (3 : Nat) (Option.some FieldType.boolean)) ∈ lw_tbl := tb_r (List.mem_of_getElem? (i := 748) (by decide +kernel))
theorem tb749 : (Cond.methodLink "DiaryHouse" (271 : Nat) ({ cls := "DiaryHouse", name := "insertPick", desc := "(III)I" } : MethodName)) ∈ lw_tbl := tb_r (List.mem_of_getElem? (i := 749) (by decide +kernel))
theorem tb751 : (Cond.instanceMethod ({ cls := "DiaryHouse", name := "insertPick", desc := "(III)I" } : MethodName)) ∈ lw_tbl := tb_r (List.mem_of_getElem? (i := 751) (by decide +kernel))
theorem tb752 : (Cond.code ({ cls := "DiaryHouse", name := "insertPick", desc := "(III)I" } : MethodName) prog_1_method_29_code (8 : Nat) (Option.some FieldType.int)) ∈ lw_tbl := tb_r (List.mem_of_getElem? (i := 752) (by decide +kernel))
theorem tb753 : (Cond.methodLink "DiaryHouse" (282 : Nat) ({ cls := "DiaryHouse", name := "strengthOf", desc := "(I)I" } : MethodName)) ∈ lw_tbl := tb_r (List.mem_of_getElem? (i := 753) (by decide +kernel))
theorem tb755 : (Cond.instanceMethod ({ cls := "DiaryHouse", name := "strengthOf", desc := "(I)I" } : MethodName)) ∈ lw_tbl := tb_r (List.mem_of_getElem? (i := 755) (by decide +kernel))
theorem tb756 : (Cond.code ({ cls := "DiaryHouse", name := "strengthOf", desc := "(I)I" } : MethodName) prog_1_method_30_code (2 : Nat) (Option.some FieldType.int)) ∈ lw_tbl := tb_r (List.mem_of_getElem? (i := 756) (by decide +kernel))
theorem tb757 : (Cond.methodLink "DiaryHouse" (285 : Nat) ({ cls := "java/lang/Math", name := "abs", desc := "(I)I" } : MethodName)) ∈ lw_tbl := tb_r (List.mem_of_getElem? (i := 757) (by decide +kernel))
theorem tb758 : (Cond.static ({ cls := "java/lang/Math", name := "abs", desc := "(I)I" } : MethodName)) ∈ lw_tbl := tb_r (List.mem_of_getElem? (i := 758) (by decide +kernel))
theorem tb759 : (Cond.code ({ cls := "java/lang/Math", name := "abs", desc := "(I)I" } : MethodName) prog_23_method_59_code (1 : Nat) (Option.some FieldType.int)) ∈ lw_tbl := tb_r (List.mem_of_getElem? (i := 759) (by decide +kernel))
theorem tb760 : (Cond.methodLink "DiaryHouseLaw" (88 : Nat) ({ cls := "DiaryHouse", name := "left", desc := "(IIII)I" } : MethodName)) ∈ lw_tbl := tb_r (List.mem_of_getElem? (i := 760) (by decide +kernel))
theorem tb761 : (Cond.instanceMethod ({ cls := "DiaryHouse", name := "left", desc := "(IIII)I" } : MethodName)) ∈ lw_tbl := tb_r (List.mem_of_getElem? (i := 761) (by decide +kernel))
theorem tb762 : (Cond.selects "DiaryHouse" ({ cls := "DiaryHouse", name := "left", desc := "(IIII)I" } : MethodName) ({ cls := "DiaryHouse", name := "left", desc := "(IIII)I" } : MethodName)) ∈ lw_tbl := tb_r (List.mem_of_getElem? (i := 762) (by decide +kernel))
theorem tb763 : (Cond.code ({ cls := "DiaryHouse", name := "left", desc := "(IIII)I" } : MethodName) prog_1_method_24_code (5 : Nat) (Option.some FieldType.int)) ∈ lw_tbl := tb_r (List.mem_of_getElem? (i := 763) (by decide +kernel))
theorem tb764 : (Cond.methodLink "DiaryHouse" (261 : Nat) ({ cls := "DiaryHouse", name := "linesFor", desc := "(II)I" } : MethodName)) ∈ lw_tbl := tb_r (List.mem_of_getElem? (i := 764) (by decide +kernel))
theorem tb766 : (Cond.instanceMethod ({ cls := "DiaryHouse", name := "linesFor", desc := "(II)I" } : MethodName)) ∈ lw_tbl := tb_r (List.mem_of_getElem? (i := 766) (by decide +kernel))
theorem tb767 : (Cond.code ({ cls := "DiaryHouse", name := "linesFor", desc := "(II)I" } : MethodName) prog_1_method_26_code (5 : Nat) (Option.some FieldType.int)) ∈ lw_tbl := tb_r (List.mem_of_getElem? (i := 767) (by decide +kernel))
theorem tb768 : (Cond.methodLink "DiaryHouseLaw" (92 : Nat) ({ cls := "DiaryHouse", name := "happen", desc := "(IIIZ)Z" } : MethodName)) ∈ lw_tbl := tb_r (List.mem_of_getElem? (i := 768) (by decide +kernel))
theorem tb769 : (Cond.instanceMethod ({ cls := "DiaryHouse", name := "happen", desc := "(IIIZ)Z" } : MethodName)) ∈ lw_tbl := tb_r (List.mem_of_getElem? (i := 769) (by decide +kernel))
theorem tb770 : (Cond.selects "DiaryHouse" ({ cls := "DiaryHouse", name := "happen", desc := "(IIIZ)Z" } : MethodName) ({ cls := "DiaryHouse", name := "happen", desc := "(IIIZ)Z" } : MethodName)) ∈ lw_tbl := tb_r (List.mem_of_getElem? (i := 770) (by decide +kernel))
theorem tb771 : (Cond.code ({ cls := "DiaryHouse", name := "happen", desc := "(IIIZ)Z" } : MethodName) prog_1_method_31_code (5 : Nat) (Option.some FieldType.boolean)) ∈ lw_tbl := tb_r (List.mem_of_getElem? (i := 771) (by decide +kernel))
theorem tb772 : (Cond.classLink "DiaryHouse" (288 : Nat) "DiaryHouse$Happening") ∈ lw_tbl := tb_r (List.mem_of_getElem? (i := 772) (by decide +kernel))
theorem tb774 : (Cond.methodLink "DiaryHouse" (290 : Nat) ({ cls := "DiaryHouse$Happening", name := "<init>", desc := "(IIIZI)V" } : MethodName)) ∈ lw_tbl := tb_r (List.mem_of_getElem? (i := 774) (by decide +kernel))
theorem tb775 : (Cond.instanceMethod ({ cls := "DiaryHouse$Happening", name := "<init>", desc := "(IIIZI)V" } : MethodName)) ∈ lw_tbl := tb_r (List.mem_of_getElem? (i := 775) (by decide +kernel))
theorem tb776 : (Cond.code ({ cls := "DiaryHouse$Happening", name := "<init>", desc := "(IIIZI)V" } : MethodName) prog_2_method_1_code (6 : Nat) (Option.none : Option FieldType)) ∈ lw_tbl := tb_r (List.mem_of_getElem? (i := 776) (by decide +kernel))
theorem tb777 : (Cond.methodLink "DiaryHouse$Happening" (1 : Nat) ({ cls := "java/lang/Object", name := "<init>", desc := "()V" } : MethodName)) ∈ lw_tbl := tb_r (List.mem_of_getElem? (i := 777) (by decide +kernel))
theorem tb778 : (Cond.fieldLink "DiaryHouse$Happening" (7 : Nat) "DiaryHouse$Happening" "place" "I") ∈ lw_tbl := tb_r (List.mem_of_getElem? (i := 778) (by decide +kernel))
theorem tb779 : (Cond.fieldLink "DiaryHouse$Happening" (13 : Nat) "DiaryHouse$Happening" "day" "I") ∈ lw_tbl := tb_r (List.mem_of_getElem? (i := 779) (by decide +kernel))
theorem tb780 : (Cond.fieldLink "DiaryHouse$Happening" (16 : Nat) "DiaryHouse$Happening" "sort" "I") ∈ lw_tbl := tb_r (List.mem_of_getElem? (i := 780) (by decide +kernel))
theorem tb781 : (Cond.fieldLink "DiaryHouse$Happening" (19 : Nat) "DiaryHouse$Happening" "is" "Z") ∈ lw_tbl := tb_r (List.mem_of_getElem? (i := 781) (by decide +kernel))
theorem tb782 : (Cond.fieldLinkNest "DiaryHouse" (297 : Nat) "DiaryHouse$Happening" "is" "Z" "DiaryHouse") ∈ lw_tbl := tb_r (List.mem_of_getElem? (i := 782) (by decide +kernel))
theorem tb783 : (Cond.fieldLink "DiaryHouse$Happening" (23 : Nat) "DiaryHouse$Happening" "told" "I") ∈ lw_tbl := tb_r (List.mem_of_getElem? (i := 783) (by decide +kernel))
theorem tb784 : (Cond.fieldLinkNest "DiaryHouse" (293 : Nat) "DiaryHouse$Happening" "told" "I" "DiaryHouse") ∈ lw_tbl := tb_r (List.mem_of_getElem? (i := 784) (by decide +kernel))
theorem tb796 : (Cond.methodLink "DiaryHouseLaw" (97 : Nat) ({ cls := "DiaryHouse", name := "truth", desc := "(II)I" } : MethodName)) ∈ lw_tbl := tb_r (List.mem_of_getElem? (i := 796) (by decide +kernel))
theorem tb797 : (Cond.instanceMethod ({ cls := "DiaryHouse", name := "truth", desc := "(II)I" } : MethodName)) ∈ lw_tbl := tb_r (List.mem_of_getElem? (i := 797) (by decide +kernel))
theorem tb798 : (Cond.selects "DiaryHouse" ({ cls := "DiaryHouse", name := "truth", desc := "(II)I" } : MethodName) ({ cls := "DiaryHouse", name := "truth", desc := "(II)I" } : MethodName)) ∈ lw_tbl := tb_r (List.mem_of_getElem? (i := 798) (by decide +kernel))
theorem tb799 : (Cond.code ({ cls := "DiaryHouse", name := "truth", desc := "(II)I" } : MethodName) prog_1_method_32_code (7 : Nat) (Option.some FieldType.int)) ∈ lw_tbl := tb_r (List.mem_of_getElem? (i := 799) (by decide +kernel))
theorem tb800 : (Cond.methodLink "DiaryHouse" (294 : Nat) ({ cls := "DiaryHouse$Happening", name := "isOf", desc := "(III)Z" } : MethodName)) ∈ lw_tbl := tb_r (List.mem_of_getElem? (i := 800) (by decide +kernel))
theorem tb801 : (Cond.instanceMethod ({ cls := "DiaryHouse$Happening", name := "isOf", desc := "(III)Z" } : MethodName)) ∈ lw_tbl := tb_r (List.mem_of_getElem? (i := 801) (by decide +kernel))
theorem tb802 : (Cond.selects "DiaryHouse$Happening" ({ cls := "DiaryHouse$Happening", name := "isOf", desc := "(III)Z" } : MethodName) ({ cls := "DiaryHouse$Happening", name := "isOf", desc := "(III)Z" } : MethodName)) ∈ lw_tbl := tb_r (List.mem_of_getElem? (i := 802) (by decide +kernel))
theorem tb803 : (Cond.code ({ cls := "DiaryHouse$Happening", name := "isOf", desc := "(III)Z" } : MethodName) prog_2_method_2_code (4 : Nat) (Option.some FieldType.boolean)) ∈ lw_tbl := tb_r (List.mem_of_getElem? (i := 803) (by decide +kernel))
theorem tb804 : (Cond.methodLink "DiaryHouseLaw" (101 : Nat) ({ cls := "DiaryHouse", name := "way", desc := "(IIII)I" } : MethodName)) ∈ lw_tbl := tb_r (List.mem_of_getElem? (i := 804) (by decide +kernel))
theorem tb805 : (Cond.instanceMethod ({ cls := "DiaryHouse", name := "way", desc := "(IIII)I" } : MethodName)) ∈ lw_tbl := tb_r (List.mem_of_getElem? (i := 805) (by decide +kernel))
theorem tb806 : (Cond.selects "DiaryHouse" ({ cls := "DiaryHouse", name := "way", desc := "(IIII)I" } : MethodName) ({ cls := "DiaryHouse", name := "way", desc := "(IIII)I" } : MethodName)) ∈ lw_tbl := tb_r (List.mem_of_getElem? (i := 806) (by decide +kernel))
theorem tb807 : (Cond.code ({ cls := "DiaryHouse", name := "way", desc := "(IIII)I" } : MethodName) prog_1_method_33_code (10 : Nat) (Option.some FieldType.int)) ∈ lw_tbl := tb_r (List.mem_of_getElem? (i := 807) (by decide +kernel))
theorem tb808 : (Cond.methodLink "DiaryHouse" (301 : Nat) ({ cls := "DiaryHouse", name := "wordOf", desc := "(III)LDiaryHouse$Line;" } : MethodName)) ∈ lw_tbl := tb_r (List.mem_of_getElem? (i := 808) (by decide +kernel))
theorem tb810 : (Cond.instanceMethod ({ cls := "DiaryHouse", name := "wordOf", desc := "(III)LDiaryHouse$Line;" } : MethodName)) ∈ lw_tbl := tb_r (List.mem_of_getElem? (i := 810) (by decide +kernel))
theorem tb811 : (Cond.code ({ cls := "DiaryHouse", name := "wordOf", desc := "(III)LDiaryHouse$Line;" } : MethodName) prog_1_method_35_code (7 : Nat) (Option.some (FieldType.object "DiaryHouse$Line"))) ∈ lw_tbl := tb_r (List.mem_of_getElem? (i := 811) (by decide +kernel))
theorem tb812 : (Cond.methodLink "DiaryHouse" (306 : Nat) ({ cls := "DiaryHouse", name := "wayPart", desc := "(IIII)I" } : MethodName)) ∈ lw_tbl := tb_r (List.mem_of_getElem? (i := 812) (by decide +kernel))
theorem tb813 : (Cond.static ({ cls := "DiaryHouse", name := "wayPart", desc := "(IIII)I" } : MethodName)) ∈ lw_tbl := tb_r (List.mem_of_getElem? (i := 813) (by decide +kernel))
theorem tb814 : (Cond.code ({ cls := "DiaryHouse", name := "wayPart", desc := "(IIII)I" } : MethodName) prog_1_method_34_code (4 : Nat) (Option.some FieldType.int)) ∈ lw_tbl := tb_r (List.mem_of_getElem? (i := 814) (by decide +kernel))
theorem tb815 : (Cond.methodLink "DiaryHouseLaw" (105 : Nat) ({ cls := "DiaryHouse", name := "bearers", desc := "(II)I" } : MethodName)) ∈ lw_tbl := tb_r (List.mem_of_getElem? (i := 815) (by decide +kernel))
theorem tb816 : (Cond.instanceMethod ({ cls := "DiaryHouse", name := "bearers", desc := "(II)I" } : MethodName)) ∈ lw_tbl := tb_r (List.mem_of_getElem? (i := 816) (by decide +kernel))
theorem tb817 : (Cond.selects "DiaryHouse" ({ cls := "DiaryHouse", name := "bearers", desc := "(II)I" } : MethodName) ({ cls := "DiaryHouse", name := "bearers", desc := "(II)I" } : MethodName)) ∈ lw_tbl := tb_r (List.mem_of_getElem? (i := 817) (by decide +kernel))
theorem tb818 : (Cond.code ({ cls := "DiaryHouse", name := "bearers", desc := "(II)I" } : MethodName) prog_1_method_36_code (5 : Nat) (Option.some FieldType.int)) ∈ lw_tbl := tb_r (List.mem_of_getElem? (i := 818) (by decide +kernel))
theorem tb819 : (Cond.methodLink "DiaryHouseLaw" (109 : Nat) ({ cls := "DiaryHouse", name := "mark", desc := "(III)Z" } : MethodName)) ∈ lw_tbl := tb_r (List.mem_of_getElem? (i := 819) (by decide +kernel))
theorem tb820 : (Cond.instanceMethod ({ cls := "DiaryHouse", name := "mark", desc := "(III)Z" } : MethodName)) ∈ lw_tbl := tb_r (List.mem_of_getElem? (i := 820) (by decide +kernel))
theorem tb821 : (Cond.selects "DiaryHouse" ({ cls := "DiaryHouse", name := "mark", desc := "(III)Z" } : MethodName) ({ cls := "DiaryHouse", name := "mark", desc := "(III)Z" } : MethodName)) ∈ lw_tbl := tb_r (List.mem_of_getElem? (i := 821) (by decide +kernel))
theorem tb822 : (Cond.code ({ cls := "DiaryHouse", name := "mark", desc := "(III)Z" } : MethodName) prog_1_method_37_code (4 : Nat) (Option.some FieldType.boolean)) ∈ lw_tbl := tb_r (List.mem_of_getElem? (i := 822) (by decide +kernel))
theorem tb823 : (Cond.methodLink "DiaryHouse" (316 : Nat) ({ cls := "DiaryHouse", name := "isReader", desc := "(I)Z" } : MethodName)) ∈ lw_tbl := tb_r (List.mem_of_getElem? (i := 823) (by decide +kernel))
theorem tb824 : (Cond.static ({ cls := "DiaryHouse", name := "isReader", desc := "(I)Z" } : MethodName)) ∈ lw_tbl := tb_r (List.mem_of_getElem? (i := 824) (by decide +kernel))
theorem tb825 : (Cond.code ({ cls := "DiaryHouse", name := "isReader", desc := "(I)Z" } : MethodName) prog_1_method_83_code (1 : Nat) (Option.some FieldType.boolean)) ∈ lw_tbl := tb_r (List.mem_of_getElem? (i := 825) (by decide +kernel))
theorem tb826 : (Cond.classLink "DiaryHouse" (319 : Nat) "DiaryHouse$Mark") ∈ lw_tbl := tb_r (List.mem_of_getElem? (i := 826) (by decide +kernel))
theorem tb828 : (Cond.methodLink "DiaryHouse" (321 : Nat) ({ cls := "DiaryHouse$Mark", name := "<init>", desc := "(IIII)V" } : MethodName)) ∈ lw_tbl := tb_r (List.mem_of_getElem? (i := 828) (by decide +kernel))
theorem tb829 : (Cond.instanceMethod ({ cls := "DiaryHouse$Mark", name := "<init>", desc := "(IIII)V" } : MethodName)) ∈ lw_tbl := tb_r (List.mem_of_getElem? (i := 829) (by decide +kernel))
theorem tb830 : (Cond.code ({ cls := "DiaryHouse$Mark", name := "<init>", desc := "(IIII)V" } : MethodName) prog_4_method_1_code (5 : Nat) (Option.none : Option FieldType)) ∈ lw_tbl := tb_r (List.mem_of_getElem? (i := 830) (by decide +kernel))
theorem tb831 : (Cond.methodLink "DiaryHouse$Mark" (1 : Nat) ({ cls := "java/lang/Object", name := "<init>", desc := "()V" } : MethodName)) ∈ lw_tbl := tb_r (List.mem_of_getElem? (i := 831) (by decide +kernel))
theorem tb832 : (Cond.fieldLink "DiaryHouse$Mark" (7 : Nat) "DiaryHouse$Mark" "reader" "I") ∈ lw_tbl := tb_r (List.mem_of_getElem? (i := 832) (by decide +kernel))
theorem tb833 : (Cond.fieldLinkNest "DiaryHouse" (326 : Nat) "DiaryHouse$Mark" "reader" "I" "DiaryHouse") ∈ lw_tbl := tb_r (List.mem_of_getElem? (i := 833) (by decide +kernel))
theorem tb834 : (Cond.fieldLink "DiaryHouse$Mark" (13 : Nat) "DiaryHouse$Mark" "line" "I") ∈ lw_tbl := tb_r (List.mem_of_getElem? (i := 834) (by decide +kernel))
theorem tb835 : (Cond.fieldLinkNest "DiaryHouse" (329 : Nat) "DiaryHouse$Mark" "line" "I" "DiaryHouse") ∈ lw_tbl := tb_r (List.mem_of_getElem? (i := 835) (by decide +kernel))
theorem tb836 : (Cond.fieldLink "DiaryHouse$Mark" (16 : Nat) "DiaryHouse$Mark" "value" "I") ∈ lw_tbl := tb_r (List.mem_of_getElem? (i := 836) (by decide +kernel))
theorem tb837 : (Cond.fieldLinkNest "DiaryHouse" (332 : Nat) "DiaryHouse$Mark" "value" "I" "DiaryHouse") ∈ lw_tbl := tb_r (List.mem_of_getElem? (i := 837) (by decide +kernel))
theorem tb838 : (Cond.fieldLink "DiaryHouse$Mark" (19 : Nat) "DiaryHouse$Mark" "told" "I") ∈ lw_tbl := tb_r (List.mem_of_getElem? (i := 838) (by decide +kernel))
theorem tb839 : (Cond.fieldLinkNest "DiaryHouse" (325 : Nat) "DiaryHouse$Mark" "told" "I" "DiaryHouse") ∈ lw_tbl := tb_r (List.mem_of_getElem? (i := 839) (by decide +kernel))
theorem tb849 : (Cond.methodLink "DiaryHouseLaw" (114 : Nat) ({ cls := "DiaryHouse", name := "marked", desc := "(III)I" } : MethodName)) ∈ lw_tbl := tb_r (List.mem_of_getElem? (i := 849) (by decide +kernel))
theorem tb850 : (Cond.instanceMethod ({ cls := "DiaryHouse", name := "marked", desc := "(III)I" } : MethodName)) ∈ lw_tbl := tb_r (List.mem_of_getElem? (i := 850) (by decide +kernel))
theorem tb851 : (Cond.selects "DiaryHouse" ({ cls := "DiaryHouse", name := "marked", desc := "(III)I" } : MethodName) ({ cls := "DiaryHouse", name := "marked", desc := "(III)I" } : MethodName)) ∈ lw_tbl := tb_r (List.mem_of_getElem? (i := 851) (by decide +kernel))
theorem tb852 : (Cond.code ({ cls := "DiaryHouse", name := "marked", desc := "(III)I" } : MethodName) prog_1_method_38_code (4 : Nat) (Option.some FieldType.int)) ∈ lw_tbl := tb_r (List.mem_of_getElem? (i := 852) (by decide +kernel))
theorem tb853 : (Cond.methodLink "DiaryHouse" (322 : Nat) ({ cls := "DiaryHouse", name := "layMarks", desc := "(I)V" } : MethodName)) ∈ lw_tbl := tb_r (List.mem_of_getElem? (i := 853) (by decide +kernel))
theorem tb855 : (Cond.instanceMethod ({ cls := "DiaryHouse", name := "layMarks", desc := "(I)V" } : MethodName)) ∈ lw_tbl := tb_r (List.mem_of_getElem? (i := 855) (by decide +kernel))
theorem tb856 : (Cond.code ({ cls := "DiaryHouse", name := "layMarks", desc := "(I)V" } : MethodName) prog_1_method_39_code (4 : Nat) (Option.none : Option FieldType)) ∈ lw_tbl := tb_r (List.mem_of_getElem? (i := 856) (by decide +kernel))
theorem tb857 : (Cond.methodLink "DiaryHouseLaw" (118 : Nat) ({ cls := "DiaryHouse", name := "agree", desc := "(IIII)I" } : MethodName)) ∈ lw_tbl := tb_r (List.mem_of_getElem? (i := 857) (by decide +kernel))
theorem tb858 : (Cond.instanceMethod ({ cls := "DiaryHouse", name := "agree", desc := "(IIII)I" } : MethodName)) ∈ lw_tbl := tb_r (List.mem_of_getElem? (i := 858) (by decide +kernel))
theorem tb859 : (Cond.selects "DiaryHouse" ({ cls := "DiaryHouse", name := "agree", desc := "(IIII)I" } : MethodName) ({ cls := "DiaryHouse", name := "agree", desc := "(IIII)I" } : MethodName)) ∈ lw_tbl := tb_r (List.mem_of_getElem? (i := 859) (by decide +kernel))
theorem tb860 : (Cond.code ({ cls := "DiaryHouse", name := "agree", desc := "(IIII)I" } : MethodName) prog_1_method_40_code (10 : Nat) (Option.some FieldType.int)) ∈ lw_tbl := tb_r (List.mem_of_getElem? (i := 860) (by decide +kernel))
theorem tb861 : (Cond.methodLink "DiaryHouseLaw" (122 : Nat) ({ cls := "DiaryHouse", name := "habit", desc := "(II)I" } : MethodName)) ∈ lw_tbl := tb_r (List.mem_of_getElem? (i := 861) (by decide +kernel))
theorem tb862 : (Cond.instanceMethod ({ cls := "DiaryHouse", name := "habit", desc := "(II)I" } : MethodName)) ∈ lw_tbl := tb_r (List.mem_of_getElem? (i := 862) (by decide +kernel))
theorem tb863 : (Cond.selects "DiaryHouse" ({ cls := "DiaryHouse", name := "habit", desc := "(II)I" } : MethodName) ({ cls := "DiaryHouse", name := "habit", desc := "(II)I" } : MethodName)) ∈ lw_tbl := tb_r (List.mem_of_getElem? (i := 863) (by decide +kernel))
theorem tb864 : (Cond.code ({ cls := "DiaryHouse", name := "habit", desc := "(II)I" } : MethodName) prog_1_method_41_code (9 : Nat) (Option.some FieldType.int)) ∈ lw_tbl := tb_r (List.mem_of_getElem? (i := 864) (by decide +kernel))
theorem tb865 : (Cond.constant "DiaryHouse" (335 : Nat) (-1000000 : Int32)) ∈ lw_tbl := tb_r (List.mem_of_getElem? (i := 865) (by decide +kernel))
theorem tb866 : (Cond.methodLink "DiaryHouse" (336 : Nat) ({ cls := "DiaryHouse", name := "share", desc := "(III)I" } : MethodName)) ∈ lw_tbl := tb_r (List.mem_of_getElem? (i := 866) (by decide +kernel))
theorem tb867 : (Cond.static ({ cls := "DiaryHouse", name := "share", desc := "(III)I" } : MethodName)) ∈ lw_tbl := tb_r (List.mem_of_getElem? (i := 867) (by decide +kernel))
theorem tb868 : (Cond.code ({ cls := "DiaryHouse", name := "share", desc := "(III)I" } : MethodName) prog_1_method_48_code (3 : Nat) (Option.some FieldType.int)) ∈ lw_tbl := tb_r (List.mem_of_getElem? (i := 868) (by decide +kernel))
theorem tb869 : (Cond.methodLink "DiaryHouseLaw" (126 : Nat) ({ cls := "DiaryHouse", name := "held", desc := "(II)I" } : MethodName)) ∈ lw_tbl := tb_r (List.mem_of_getElem? (i := 869) (by decide +kernel))
theorem tb870 : (Cond.instanceMethod ({ cls := "DiaryHouse", name := "held", desc := "(II)I" } : MethodName)) ∈ lw_tbl := tb_r (List.mem_of_getElem? (i := 870) (by decide +kernel))
theorem tb871 : (Cond.selects "DiaryHouse" ({ cls := "DiaryHouse", name := "held", desc := "(II)I" } : MethodName) ({ cls := "DiaryHouse", name := "held", desc := "(II)I" } : MethodName)) ∈ lw_tbl := tb_r (List.mem_of_getElem? (i := 871) (by decide +kernel))
theorem tb872 : (Cond.code ({ cls := "DiaryHouse", name := "held", desc := "(II)I" } : MethodName) prog_1_method_42_code (7 : Nat) (Option.some FieldType.int)) ∈ lw_tbl := tb_r (List.mem_of_getElem? (i := 872) (by decide +kernel))
theorem tb873 : (Cond.methodLink "DiaryHouse" (339 : Nat) ({ cls := "DiaryHouse", name := "readersGiving", desc := "(II)I" } : MethodName)) ∈ lw_tbl := tb_r (List.mem_of_getElem? (i := 873) (by decide +kernel))
theorem tb875 : (Cond.instanceMethod ({ cls := "DiaryHouse", name := "readersGiving", desc := "(II)I" } : MethodName)) ∈ lw_tbl := tb_r (List.mem_of_getElem? (i := 875) (by decide +kernel))
theorem tb876 : (Cond.code ({ cls := "DiaryHouse", name := "readersGiving", desc := "(II)I" } : MethodName) prog_1_method_43_code (5 : Nat) (Option.some FieldType.int)) ∈ lw_tbl := tb_r (List.mem_of_getElem? (i := 876) (by decide +kernel))
theorem tb877 : (Cond.methodLink "DiaryHouseLaw" (130 : Nat) ({ cls := "DiaryHouse", name := "land", desc := "(III)Z" } : MethodName)) ∈ lw_tbl := tb_r (List.mem_of_getElem? (i := 877) (by decide +kernel))
theorem tb878 : (Cond.instanceMethod ({ cls := "DiaryHouse", name := "land", desc := "(III)Z" } : MethodName)) ∈ lw_tbl := tb_r (List.mem_of_getElem? (i := 878) (by decide +kernel))
theorem tb879 : (Cond.selects "DiaryHouse" ({ cls := "DiaryHouse", name := "land", desc := "(III)Z" } : MethodName) ({ cls := "DiaryHouse", name := "land", desc := "(III)Z" } : MethodName)) ∈ lw_tbl := tb_r (List.mem_of_getElem? (i := 879) (by decide +kernel))
theorem tb880 : (Cond.code ({ cls := "DiaryHouse", name := "land", desc := "(III)Z" } : MethodName) prog_1_method_44_code (4 : Nat) (Option.some FieldType.boolean)) ∈ lw_tbl := tb_r (List.mem_of_getElem? (i := 880) (by decide +kernel))
theorem tb881 : (Cond.methodLink "DiaryHouseLaw" (134 : Nat) ({ cls := "DiaryHouse", name := "span", desc := "(IIII)I" } : MethodName)) ∈ lw_tbl := tb_r (List.mem_of_getElem? (i := 881) (by decide +kernel))
theorem tb882 : (Cond.instanceMethod ({ cls := "DiaryHouse", name := "span", desc := "(IIII)I" } : MethodName)) ∈ lw_tbl := tb_r (List.mem_of_getElem? (i := 882) (by decide +kernel))
theorem tb883 : (Cond.selects "DiaryHouse" ({ cls := "DiaryHouse", name := "span", desc := "(IIII)I" } : MethodName) ({ cls := "DiaryHouse", name := "span", desc := "(IIII)I" } : MethodName)) ∈ lw_tbl := tb_r (List.mem_of_getElem? (i := 883) (by decide +kernel))
theorem tb884 : (Cond.code ({ cls := "DiaryHouse", name := "span", desc := "(IIII)I" } : MethodName) prog_1_method_46_code (12 : Nat) (Option.some FieldType.int)) ∈ lw_tbl := tb_r (List.mem_of_getElem? (i := 884) (by decide +kernel))
theorem tb885 : (Cond.methodLink "DiaryHouse" (342 : Nat) ({ cls := "DiaryHouse", name := "allPeople", desc := "()I" } : MethodName)) ∈ lw_tbl := tb_r (List.mem_of_getElem? (i := 885) (by decide +kernel))
theorem tb887 : (Cond.instanceMethod ({ cls := "DiaryHouse", name := "allPeople", desc := "()I" } : MethodName)) ∈ lw_tbl := tb_r (List.mem_of_getElem? (i := 887) (by decide +kernel))
theorem tb888 : (Cond.code ({ cls := "DiaryHouse", name := "allPeople", desc := "()I" } : MethodName) prog_1_method_45_code (4 : Nat) (Option.some FieldType.int)) ∈ lw_tbl := tb_r (List.mem_of_getElem? (i := 888) (by decide +kernel))
theorem tb889 : (Cond.methodLink "DiaryHouse" (345 : Nat) ({ cls := "DiaryHouse", name := "meanMood", desc := "(IIIII)I" } : MethodName)) ∈ lw_tbl := tb_r (List.mem_of_getElem? (i := 889) (by decide +kernel))
theorem tb891 : (Cond.instanceMethod ({ cls := "DiaryHouse", name := "meanMood", desc := "(IIIII)I" } : MethodName)) ∈ lw_tbl := tb_r (List.mem_of_getElem? (i := 891) (by decide +kernel))
theorem tb892 : (Cond.code ({ cls := "DiaryHouse", name := "meanMood", desc := "(IIIII)I" } : MethodName) prog_1_method_47_code (10 : Nat) (Option.some FieldType.int)) ∈ lw_tbl := tb_r (List.mem_of_getElem? (i := 892) (by decide +kernel))
theorem tb893 : (Cond.methodLink "DiaryHouse" (349 : Nat) ({ cls := "DiaryHouse$Person", name := "livesIn", desc := "(II)Z" } : MethodName)) ∈ lw_tbl := tb_r (List.mem_of_getElem? (i := 893) (by decide +kernel))
theorem tb894 : (Cond.instanceMethod ({ cls := "DiaryHouse$Person", name := "livesIn", desc := "(II)Z" } : MethodName)) ∈ lw_tbl := tb_r (List.mem_of_getElem? (i := 894) (by decide +kernel))
theorem tb895 : (Cond.selects "DiaryHouse$Person" ({ cls := "DiaryHouse$Person", name := "livesIn", desc := "(II)Z" } : MethodName) ({ cls := "DiaryHouse$Person", name := "livesIn", desc := "(II)Z" } : MethodName)) ∈ lw_tbl := tb_r (List.mem_of_getElem? (i := 895) (by decide +kernel))
theorem tb896 : (Cond.code ({ cls := "DiaryHouse$Person", name := "livesIn", desc := "(II)Z" } : MethodName) prog_6_method_2_code (3 : Nat) (Option.some FieldType.boolean)) ∈ lw_tbl := tb_r (List.mem_of_getElem? (i := 896) (by decide +kernel))
theorem tb897 : (Cond.methodLink "DiaryHouseLaw" (138 : Nat) ({ cls := "DiaryHouse", name := "mood", desc := "(III)I" } : MethodName)) ∈ lw_tbl := tb_r (List.mem_of_getElem? (i := 897) (by decide +kernel))
theorem tb898 : (Cond.instanceMethod ({ cls := "DiaryHouse", name := "mood", desc := "(III)I" } : MethodName)) ∈ lw_tbl := tb_r (List.mem_of_getElem? (i := 898) (by decide +kernel))
theorem tb899 : (Cond.selects "DiaryHouse" ({ cls := "DiaryHouse", name := "mood", desc := "(III)I" } : MethodName) ({ cls := "DiaryHouse", name := "mood", desc := "(III)I" } : MethodName)) ∈ lw_tbl := tb_r (List.mem_of_getElem? (i := 899) (by decide +kernel))
theorem tb900 : (Cond.code ({ cls := "DiaryHouse", name := "mood", desc := "(III)I" } : MethodName) prog_1_method_49_code (7 : Nat) (Option.some FieldType.int)) ∈ lw_tbl := tb_r (List.mem_of_getElem? (i := 900) (by decide +kernel))
theorem tb901 : (Cond.methodLink "DiaryHouseLaw" (142 : Nat) ({ cls := "DiaryHouse", name := "turn", desc := "(IIII)I" } : MethodName)) ∈ lw_tbl := tb_r (List.mem_of_getElem? (i := 901) (by decide +kernel))
theorem tb902 : (Cond.instanceMethod ({ cls := "DiaryHouse", name := "turn", desc := "(IIII)I" } : MethodName)) ∈ lw_tbl := tb_r (List.mem_of_getElem? (i := 902) (by decide +kernel))
theorem tb903 : (Cond.selects "DiaryHouse" ({ cls := "DiaryHouse", name := "turn", desc := "(IIII)I" } : MethodName) ({ cls := "DiaryHouse", name := "turn", desc := "(IIII)I" } : MethodName)) ∈ lw_tbl := tb_r (List.mem_of_getElem? (i := 903) (by decide +kernel))
theorem tb904 : (Cond.code ({ cls := "DiaryHouse", name := "turn", desc := "(IIII)I" } : MethodName) prog_1_method_50_code (7 : Nat) (Option.some FieldType.int)) ∈ lw_tbl := tb_r (List.mem_of_getElem? (i := 904) (by decide +kernel))
theorem tb905 : (Cond.methodLink "DiaryHouse" (352 : Nat) ({ cls := "DiaryHouse$Turn", name := "clear", desc := "()V" } : MethodName)) ∈ lw_tbl := tb_r (List.mem_of_getElem? (i := 905) (by decide +kernel))
theorem tb906 : (Cond.instanceMethod ({ cls := "DiaryHouse$Turn", name := "clear", desc := "()V" } : MethodName)) ∈ lw_tbl := tb_r (List.mem_of_getElem? (i := 906) (by decide +kernel))
theorem tb907 : (Cond.selects "DiaryHouse$Turn" ({ cls := "DiaryHouse$Turn", name := "clear", desc := "()V" } : MethodName) ({ cls := "DiaryHouse$Turn", name := "clear", desc := "()V" } : MethodName)) ∈ lw_tbl := tb_r (List.mem_of_getElem? (i := 907) (by decide +kernel))
theorem tb908 : (Cond.code ({ cls := "DiaryHouse$Turn", name := "clear", desc := "()V" } : MethodName) prog_12_method_2_code (1 : Nat) (Option.none : Option FieldType)) ∈ lw_tbl := tb_r (List.mem_of_getElem? (i := 908) (by decide +kernel))
theorem tb909 : (Cond.methodLink "DiaryHouse" (355 : Nat) ({ cls := "DiaryHouse$Turn", name := "add", desc := "(II)V" } : MethodName)) ∈ lw_tbl := tb_r (List.mem_of_getElem? (i := 909) (by decide +kernel))
theorem tb910 : (Cond.instanceMethod ({ cls := "DiaryHouse$Turn", name := "add", desc := "(II)V" } : MethodName)) ∈ lw_tbl := tb_r (List.mem_of_getElem? (i := 910) (by decide +kernel))
theorem tb911 : (Cond.selects "DiaryHouse$Turn" ({ cls := "DiaryHouse$Turn", name := "add", desc := "(II)V" } : MethodName) ({ cls := "DiaryHouse$Turn", name := "add", desc := "(II)V" } : MethodName)) ∈ lw_tbl := tb_r (List.mem_of_getElem? (i := 911) (by decide +kernel))
theorem tb912 : (Cond.code ({ cls := "DiaryHouse$Turn", name := "add", desc := "(II)V" } : MethodName) prog_12_method_3_code (4 : Nat) (Option.none : Option FieldType)) ∈ lw_tbl := tb_r (List.mem_of_getElem? (i := 912) (by decide +kernel))
theorem tb913 : (Cond.methodLink "DiaryHouse" (358 : Nat) ({ cls := "DiaryHouse$Turn", name := "split", desc := "()I" } : MethodName)) ∈ lw_tbl := tb_r (List.mem_of_getElem? (i := 913) (by decide +kernel))
theorem tb914 : (Cond.instanceMethod ({ cls := "DiaryHouse$Turn", name := "split", desc := "()I" } : MethodName)) ∈ lw_tbl := tb_r (List.mem_of_getElem? (i := 914) (by decide +kernel))
theorem tb915 : (Cond.selects "DiaryHouse$Turn" ({ cls := "DiaryHouse$Turn", name := "split", desc := "()I" } : MethodName) ({ cls := "DiaryHouse$Turn", name := "split", desc := "()I" } : MethodName)) ∈ lw_tbl := tb_r (List.mem_of_getElem? (i := 915) (by decide +kernel))
theorem tb916 : (Cond.code ({ cls := "DiaryHouse$Turn", name := "split", desc := "()I" } : MethodName) prog_12_method_4_code (13 : Nat) (Option.some FieldType.int)) ∈ lw_tbl := tb_r (List.mem_of_getElem? (i := 916) (by decide +kernel))
theorem tb917 : (Cond.methodLink "DiaryHouse$Turn" (22 : Nat) ({ cls := "DiaryHouse$Turn", name := "sumAhead", desc := "(I)I" } : MethodName)) ∈ lw_tbl := tb_r (List.mem_of_getElem? (i := 917) (by decide +kernel))
theorem tb919 : (Cond.instanceMethod ({ cls := "DiaryHouse$Turn", name := "sumAhead", desc := "(I)I" } : MethodName)) ∈ lw_tbl := tb_r (List.mem_of_getElem? (i := 919) (by decide +kernel))
theorem tb920 : (Cond.code ({ cls := "DiaryHouse$Turn", name := "sumAhead", desc := "(I)I" } : MethodName) prog_12_method_7_code (4 : Nat) (Option.some FieldType.int)) ∈ lw_tbl := tb_r (List.mem_of_getElem? (i := 920) (by decide +kernel))
theorem tb921 : (Cond.methodLink "DiaryHouse$Turn" (26 : Nat) ({ cls := "DiaryHouse$Turn", name := "distance", desc := "(III)J" } : MethodName)) ∈ lw_tbl := tb_r (List.mem_of_getElem? (i := 921) (by decide +kernel))
theorem tb923 : (Cond.instanceMethod ({ cls := "DiaryHouse$Turn", name := "distance", desc := "(III)J" } : MethodName)) ∈ lw_tbl := tb_r (List.mem_of_getElem? (i := 923) (by decide +kernel))
theorem tb924 : (Cond.code ({ cls := "DiaryHouse$Turn", name := "distance", desc := "(III)J" } : MethodName) prog_12_method_8_code (6 : Nat) (Option.some FieldType.long)) ∈ lw_tbl := tb_r (List.mem_of_getElem? (i := 924) (by decide +kernel))
theorem tb925 : (Cond.methodLink "DiaryHouse$Turn" (34 : Nat) ({ cls := "java/lang/Math", name := "abs", desc := "(J)J" } : MethodName)) ∈ lw_tbl := tb_r (List.mem_of_getElem? (i := 925) (by decide +kernel))
theorem tb926 : (Cond.static ({ cls := "java/lang/Math", name := "abs", desc := "(J)J" } : MethodName)) ∈ lw_tbl := tb_r (List.mem_of_getElem? (i := 926) (by decide +kernel))
theorem tb927 : (Cond.code ({ cls := "java/lang/Math", name := "abs", desc := "(J)J" } : MethodName) prog_23_method_61_code (2 : Nat) (Option.some FieldType.long)) ∈ lw_tbl := tb_r (List.mem_of_getElem? (i := 927) (by decide +kernel))
theorem tb928 : (Cond.methodLink "DiaryHouse" (361 : Nat) ({ cls := "DiaryHouse$Turn", name := "dayAt", desc := "(I)I" } : MethodName)) ∈ lw_tbl := tb_r (List.mem_of_getElem? (i := 928) (by decide +kernel))
theorem tb929 : (Cond.instanceMethod ({ cls := "DiaryHouse$Turn", name := "dayAt", desc := "(I)I" } : MethodName)) ∈ lw_tbl := tb_r (List.mem_of_getElem? (i := 929) (by decide +kernel))
theorem tb930 : (Cond.selects "DiaryHouse$Turn" ({ cls := "DiaryHouse$Turn", name := "dayAt", desc := "(I)I" } : MethodName) ({ cls := "DiaryHouse$Turn", name := "dayAt", desc := "(I)I" } : MethodName)) ∈ lw_tbl := tb_r (List.mem_of_getElem? (i := 930) (by decide +kernel))
theorem tb931 : (Cond.code ({ cls := "DiaryHouse$Turn", name := "dayAt", desc := "(I)I" } : MethodName) prog_12_method_5_code (2 : Nat) (Option.some FieldType.int)) ∈ lw_tbl := tb_r (List.mem_of_getElem? (i := 931) (by decide +kernel))
theorem tb932 : (Cond.methodLinkNest "DiaryHouse$Turn" (30 : Nat) ({ cls := "DiaryHouse", name := "isWithin", desc := "(III)Z" } : MethodName) "DiaryHouse") ∈ lw_tbl := tb_r (List.mem_of_getElem? (i := 932) (by decide +kernel))
theorem tb933 : (Cond.methodLink "DiaryHouse" (364 : Nat) ({ cls := "DiaryHouse$Turn", name := "chanceAt", desc := "(I)I" } : MethodName)) ∈ lw_tbl := tb_r (List.mem_of_getElem? (i := 933) (by decide +kernel))
theorem tb934 : (Cond.instanceMethod ({ cls := "DiaryHouse$Turn", name := "chanceAt", desc := "(I)I" } : MethodName)) ∈ lw_tbl := tb_r (List.mem_of_getElem? (i := 934) (by decide +kernel))
theorem tb935 : (Cond.selects "DiaryHouse$Turn" ({ cls := "DiaryHouse$Turn", name := "chanceAt", desc := "(I)I" } : MethodName) ({ cls := "DiaryHouse$Turn", name := "chanceAt", desc := "(I)I" } : MethodName)) ∈ lw_tbl := tb_r (List.mem_of_getElem? (i := 935) (by decide +kernel))
theorem tb936 : (Cond.code ({ cls := "DiaryHouse$Turn", name := "chanceAt", desc := "(I)I" } : MethodName) prog_12_method_6_code (9 : Nat) (Option.some FieldType.int)) ∈ lw_tbl := tb_r (List.mem_of_getElem? (i := 936) (by decide +kernel))
theorem tb937 : (Cond.methodLink "DiaryHouseLaw" (146 : Nat) ({ cls := "DiaryHouse", name := "last", desc := "(II)I" } : MethodName)) ∈ lw_tbl := tb_r (List.mem_of_getElem? (i := 937) (by decide +kernel))
theorem tb938 : (Cond.instanceMethod ({ cls := "DiaryHouse", name := "last", desc := "(II)I" } : MethodName)) ∈ lw_tbl := tb_r (List.mem_of_getElem? (i := 938) (by decide +kernel))
theorem tb939 : (Cond.selects "DiaryHouse" ({ cls := "DiaryHouse", name := "last", desc := "(II)I" } : MethodName) ({ cls := "DiaryHouse", name := "last", desc := "(II)I" } : MethodName)) ∈ lw_tbl := tb_r (List.mem_of_getElem? (i := 939) (by decide +kernel))
theorem tb940 : (Cond.code ({ cls := "DiaryHouse", name := "last", desc := "(II)I" } : MethodName) prog_1_method_51_code (3 : Nat) (Option.some FieldType.int)) ∈ lw_tbl := tb_r (List.mem_of_getElem? (i := 940) (by decide +kernel))
theorem tb941 : (Cond.methodLink "DiaryHouse" (367 : Nat) ({ cls := "DiaryHouse", name := "lastOf", desc := "(II)I" } : MethodName)) ∈ lw_tbl := tb_r (List.mem_of_getElem? (i := 941) (by decide +kernel))
theorem tb943 : (Cond.instanceMethod ({ cls := "DiaryHouse", name := "lastOf", desc := "(II)I" } : MethodName)) ∈ lw_tbl := tb_r (List.mem_of_getElem? (i := 943) (by decide +kernel))
theorem tb944 : (Cond.code ({ cls := "DiaryHouse", name := "lastOf", desc := "(II)I" } : MethodName) prog_1_method_52_code (7 : Nat) (Option.some FieldType.int)) ∈ lw_tbl := tb_r (List.mem_of_getElem? (i := 944) (by decide +kernel))
theorem tb945 : (Cond.methodLink "DiaryHouseLaw" (150 : Nat) ({ cls := "DiaryHouse", name := "lean", desc := "(II)I" } : MethodName)) ∈ lw_tbl := tb_r (List.mem_of_getElem? (i := 945) (by decide +kernel))
theorem tb946 : (Cond.instanceMethod ({ cls := "DiaryHouse", name := "lean", desc := "(II)I" } : MethodName)) ∈ lw_tbl := tb_r (List.mem_of_getElem? (i := 946) (by decide +kernel))
theorem tb947 : (Cond.selects "DiaryHouse" ({ cls := "DiaryHouse", name := "lean", desc := "(II)I" } : MethodName) ({ cls := "DiaryHouse", name := "lean", desc := "(II)I" } : MethodName)) ∈ lw_tbl := tb_r (List.mem_of_getElem? (i := 947) (by decide +kernel))
theorem tb948 : (Cond.code ({ cls := "DiaryHouse", name := "lean", desc := "(II)I" } : MethodName) prog_1_method_53_code (10 : Nat) (Option.some FieldType.int)) ∈ lw_tbl := tb_r (List.mem_of_getElem? (i := 948) (by decide +kernel))
theorem tb949 : (Cond.methodLink "DiaryHouseLaw" (154 : Nat) ({ cls := "DiaryHouse", name := "watcher", desc := "(II)I" } : MethodName)) ∈ lw_tbl := tb_r (List.mem_of_getElem? (i := 949) (by decide +kernel))
theorem tb950 : (Cond.instanceMethod ({ cls := "DiaryHouse", name := "watcher", desc := "(II)I" } : MethodName)) ∈ lw_tbl := tb_r (List.mem_of_getElem? (i := 950) (by decide +kernel))
theorem tb951 : (Cond.selects "DiaryHouse" ({ cls := "DiaryHouse", name := "watcher", desc := "(II)I" } : MethodName) ({ cls := "DiaryHouse", name := "watcher", desc := "(II)I" } : MethodName)) ∈ lw_tbl := tb_r (List.mem_of_getElem? (i := 951) (by decide +kernel))
theorem tb952 : (Cond.code ({ cls := "DiaryHouse", name := "watcher", desc := "(II)I" } : MethodName) prog_1_method_54_code (3 : Nat) (Option.some FieldType.int)) ∈ lw_tbl := tb_r (List.mem_of_getElem? (i := 952) (by decide +kernel))
theorem tb953 : (Cond.methodLink "DiaryHouse" (370 : Nat) ({ cls := "DiaryHouse", name := "isHour", desc := "(I)Z" } : MethodName)) ∈ lw_tbl := tb_r (List.mem_of_getElem? (i := 953) (by decide +kernel))
theorem tb954 : (Cond.static ({ cls := "DiaryHouse", name := "isHour", desc := "(I)Z" } : MethodName)) ∈ lw_tbl := tb_r (List.mem_of_getElem? (i := 954) (by decide +kernel))
theorem tb955 : (Cond.code ({ cls := "DiaryHouse", name := "isHour", desc := "(I)Z" } : MethodName) prog_1_method_84_code (1 : Nat) (Option.some FieldType.boolean)) ∈ lw_tbl := tb_r (List.mem_of_getElem? (i := 955) (by decide +kernel))
theorem tb956 : (Cond.methodLink "DiaryHouse" (373 : Nat) ({ cls := "DiaryHouse$Table", name := "addWatcher", desc := "(II)I" } : MethodName)) ∈ lw_tbl := tb_r (List.mem_of_getElem? (i := 956) (by decide +kernel))
theorem tb957 : (Cond.instanceMethod ({ cls := "DiaryHouse$Table", name := "addWatcher", desc := "(II)I" } : MethodName)) ∈ lw_tbl := tb_r (List.mem_of_getElem? (i := 957) (by decide +kernel))
theorem tb958 : (Cond.selects "DiaryHouse$Table" ({ cls := "DiaryHouse$Table", name := "addWatcher", desc := "(II)I" } : MethodName) ({ cls := "DiaryHouse$Table", name := "addWatcher", desc := "(II)I" } : MethodName)) ∈ lw_tbl := tb_r (List.mem_of_getElem? (i := 958) (by decide +kernel))
theorem tb959 : (Cond.code ({ cls := "DiaryHouse$Table", name := "addWatcher", desc := "(II)I" } : MethodName) prog_10_method_6_code (3 : Nat) (Option.some FieldType.int)) ∈ lw_tbl := tb_r (List.mem_of_getElem? (i := 959) (by decide +kernel))
theorem tb960 : (Cond.methodLink "DiaryHouse$Table" (44 : Nat) ({ cls := "DiaryHouse$Table", name := "planAnew", desc := "()V" } : MethodName)) ∈ lw_tbl := tb_r (List.mem_of_getElem? (i := 960) (by decide +kernel))
theorem tb962 : (Cond.instanceMethod ({ cls := "DiaryHouse$Table", name := "planAnew", desc := "()V" } : MethodName)) ∈ lw_tbl := tb_r (List.mem_of_getElem? (i := 962) (by decide +kernel))
theorem tb963 : (Cond.code ({ cls := "DiaryHouse$Table", name := "planAnew", desc := "()V" } : MethodName) prog_10_method_8_code (1 : Nat) (Option.none : Option FieldType)) ∈ lw_tbl := tb_r (List.mem_of_getElem? (i := 963) (by decide +kernel))
theorem tb964 : (Cond.methodLink "DiaryHouse$Table" (47 : Nat) ({ cls := "DiaryHouse$Table", name := "tryFrom", desc := "(LDiaryHouse$Table;II)V" } : MethodName)) ∈ lw_tbl := tb_r (List.mem_of_getElem? (i := 964) (by decide +kernel))
theorem tb965 : (Cond.static ({ cls := "DiaryHouse$Table", name := "tryFrom", desc := "(LDiaryHouse$Table;II)V" } : MethodName)) ∈ lw_tbl := tb_r (List.mem_of_getElem? (i := 965) (by decide +kernel))
theorem tb966 : (Cond.code ({ cls := "DiaryHouse$Table", name := "tryFrom", desc := "(LDiaryHouse$Table;II)V" } : MethodName) prog_10_method_9_code (4 : Nat) (Option.none : Option FieldType)) ∈ lw_tbl := tb_r (List.mem_of_getElem? (i := 966) (by decide +kernel))
theorem tb967 : (Cond.methodLink "DiaryHouse$Table" (51 : Nat) ({ cls := "java/lang/System", name := "arraycopy", desc := "(Ljava/lang/Object;ILjava/lang/Object;II)V" } : MethodName)) ∈ lw_tbl := tb_r (List.mem_of_getElem? (i := 967) (by decide +kernel))
theorem tb968 : (Cond.methodLink "DiaryHouse$Table" (57 : Nat) ({ cls := "DiaryHouse$Table", name := "canSee", desc := "(II)Z" } : MethodName)) ∈ lw_tbl := tb_r (List.mem_of_getElem? (i := 968) (by decide +kernel))
theorem tb970 : (Cond.instanceMethod ({ cls := "DiaryHouse$Table", name := "canSee", desc := "(II)Z" } : MethodName)) ∈ lw_tbl := tb_r (List.mem_of_getElem? (i := 970) (by decide +kernel))
theorem tb971 : (Cond.code ({ cls := "DiaryHouse$Table", name := "canSee", desc := "(II)Z" } : MethodName) prog_10_method_10_code (4 : Nat) (Option.some FieldType.boolean)) ∈ lw_tbl := tb_r (List.mem_of_getElem? (i := 971) (by decide +kernel))
theorem tb972 : (Cond.methodLinkNest "DiaryHouse$Table" (40 : Nat) ({ cls := "DiaryHouse", name := "isWithin", desc := "(III)Z" } : MethodName) "DiaryHouse") ∈ lw_tbl := tb_r (List.mem_of_getElem? (i := 972) (by decide +kernel))
theorem tb973 : (Cond.methodLink "DiaryHouse$Table" (61 : Nat) ({ cls := "DiaryHouse$Table", name := "canBothBeSeen", desc := "(II)Z" } : MethodName)) ∈ lw_tbl := tb_r (List.mem_of_getElem? (i := 973) (by decide +kernel))
theorem tb975 : (Cond.instanceMethod ({ cls := "DiaryHouse$Table", name := "canBothBeSeen", desc := "(II)Z" } : MethodName)) ∈ lw_tbl := tb_r (List.mem_of_getElem? (i := 975) (by decide +kernel))
theorem tb976 : (Cond.code ({ cls := "DiaryHouse$Table", name := "canBothBeSeen", desc := "(II)Z" } : MethodName) prog_10_method_11_code (4 : Nat) (Option.some FieldType.boolean)) ∈ lw_tbl := tb_r (List.mem_of_getElem? (i := 976) (by decide +kernel))
theorem tb977 : (Cond.methodLink "DiaryHouse$Table" (64 : Nat) ({ cls := "java/lang/Math", name := "abs", desc := "(I)I" } : MethodName)) ∈ lw_tbl := tb_r (List.mem_of_getElem? (i := 977) (by decide +kernel))
theorem tb978 : (Cond.methodLink "DiaryHouseLaw" (158 : Nat) ({ cls := "DiaryHouse", name := "want", desc := "(II)I" } : MethodName)) ∈ lw_tbl := tb_r (List.mem_of_getElem? (i := 978) (by decide +kernel))
theorem tb979 : (Cond.instanceMethod ({ cls := "DiaryHouse", name := "want", desc := "(II)I" } : MethodName)) ∈ lw_tbl := tb_r (List.mem_of_getElem? (i := 979) (by decide +kernel))
theorem tb980 : (Cond.selects "DiaryHouse" ({ cls := "DiaryHouse", name := "want", desc := "(II)I" } : MethodName) ({ cls := "DiaryHouse", name := "want", desc := "(II)I" } : MethodName)) ∈ lw_tbl := tb_r (List.mem_of_getElem? (i := 980) (by decide +kernel))
theorem tb981 : (Cond.code ({ cls := "DiaryHouse", name := "want", desc := "(II)I" } : MethodName) prog_1_method_55_code (3 : Nat) (Option.some FieldType.int)) ∈ lw_tbl := tb_r (List.mem_of_getElem? (i := 981) (by decide +kernel))
theorem tb982 : (Cond.methodLink "DiaryHouse" (376 : Nat) ({ cls := "DiaryHouse$Table", name := "addWanted", desc := "(II)I" } : MethodName)) ∈ lw_tbl := tb_r (List.mem_of_getElem? (i := 982) (by decide +kernel))
theorem tb983 : (Cond.instanceMethod ({ cls := "DiaryHouse$Table", name := "addWanted", desc := "(II)I" } : MethodName)) ∈ lw_tbl := tb_r (List.mem_of_getElem? (i := 983) (by decide +kernel))
theorem tb984 : (Cond.selects "DiaryHouse$Table" ({ cls := "DiaryHouse$Table", name := "addWanted", desc := "(II)I" } : MethodName) ({ cls := "DiaryHouse$Table", name := "addWanted", desc := "(II)I" } : MethodName)) ∈ lw_tbl := tb_r (List.mem_of_getElem? (i := 984) (by decide +kernel))
theorem tb985 : (Cond.code ({ cls := "DiaryHouse$Table", name := "addWanted", desc := "(II)I" } : MethodName) prog_10_method_7_code (3 : Nat) (Option.some FieldType.int)) ∈ lw_tbl := tb_r (List.mem_of_getElem? (i := 985) (by decide +kernel))
theorem tb986 : (Cond.methodLink "DiaryHouseLaw" (162 : Nat) ({ cls := "DiaryHouse", name := "table", desc := "(I)I" } : MethodName)) ∈ lw_tbl := tb_r (List.mem_of_getElem? (i := 986) (by decide +kernel))
theorem tb987 : (Cond.instanceMethod ({ cls := "DiaryHouse", name := "table", desc := "(I)I" } : MethodName)) ∈ lw_tbl := tb_r (List.mem_of_getElem? (i := 987) (by decide +kernel))
theorem tb988 : (Cond.selects "DiaryHouse" ({ cls := "DiaryHouse", name := "table", desc := "(I)I" } : MethodName) ({ cls := "DiaryHouse", name := "table", desc := "(I)I" } : MethodName)) ∈ lw_tbl := tb_r (List.mem_of_getElem? (i := 988) (by decide +kernel))
theorem tb989 : (Cond.code ({ cls := "DiaryHouse", name := "table", desc := "(I)I" } : MethodName) prog_1_method_56_code (2 : Nat) (Option.some FieldType.int)) ∈ lw_tbl := tb_r (List.mem_of_getElem? (i := 989) (by decide +kernel))
theorem tb990 : (Cond.methodLink "DiaryHouse" (379 : Nat) ({ cls := "DiaryHouse$Table", name := "seen", desc := "()I" } : MethodName)) ∈ lw_tbl := tb_r (List.mem_of_getElem? (i := 990) (by decide +kernel))
theorem tb991 : (Cond.instanceMethod ({ cls := "DiaryHouse$Table", name := "seen", desc := "()I" } : MethodName)) ∈ lw_tbl := tb_r (List.mem_of_getElem? (i := 991) (by decide +kernel))
theorem tb992 : (Cond.selects "DiaryHouse$Table" ({ cls := "DiaryHouse$Table", name := "seen", desc := "()I" } : MethodName) ({ cls := "DiaryHouse$Table", name := "seen", desc := "()I" } : MethodName)) ∈ lw_tbl := tb_r (List.mem_of_getElem? (i := 992) (by decide +kernel))
theorem tb993 : (Cond.code ({ cls := "DiaryHouse$Table", name := "seen", desc := "()I" } : MethodName) prog_10_method_4_code (1 : Nat) (Option.some FieldType.int)) ∈ lw_tbl := tb_r (List.mem_of_getElem? (i := 993) (by decide +kernel))
theorem tb994 : (Cond.methodLink "DiaryHouse" (382 : Nat) ({ cls := "DiaryHouse$Table", name := "wanted", desc := "()I" } : MethodName)) ∈ lw_tbl := tb_r (List.mem_of_getElem? (i := 994) (by decide +kernel))
theorem tb995 : (Cond.instanceMethod ({ cls := "DiaryHouse$Table", name := "wanted", desc := "()I" } : MethodName)) ∈ lw_tbl := tb_r (List.mem_of_getElem? (i := 995) (by decide +kernel))
theorem tb996 : (Cond.selects "DiaryHouse$Table" ({ cls := "DiaryHouse$Table", name := "wanted", desc := "()I" } : MethodName) ({ cls := "DiaryHouse$Table", name := "wanted", desc := "()I" } : MethodName)) ∈ lw_tbl := tb_r (List.mem_of_getElem? (i := 996) (by decide +kernel))
theorem tb997 : (Cond.code ({ cls := "DiaryHouse$Table", name := "wanted", desc := "()I" } : MethodName) prog_10_method_3_code (1 : Nat) (Option.some FieldType.int)) ∈ lw_tbl := tb_r (List.mem_of_getElem? (i := 997) (by decide +kernel))
theorem tb998 : (Cond.methodLink "DiaryHouse" (385 : Nat) ({ cls := "DiaryHouse$Table", name := "watcherOf", desc := "(I)I" } : MethodName)) ∈ lw_tbl := tb_r (List.mem_of_getElem? (i := 998) (by decide +kernel))
theorem tb999 : (Cond.instanceMethod ({ cls := "DiaryHouse$Table", name := "watcherOf", desc := "(I)I" } : MethodName)) ∈ lw_tbl := tb_r (List.mem_of_getElem? (i := 999) (by decide +kernel))
theorem tb1000 : (Cond.selects "DiaryHouse$Table" ({ cls := "DiaryHouse$Table", name := "watcherOf", desc := "(I)I" } : MethodName) ({ cls := "DiaryHouse$Table", name := "watcherOf", desc := "(I)I" } : MethodName)) ∈ lw_tbl := tb_r (List.mem_of_getElem? (i := 1000) (by decide +kernel))
theorem tb1001 : (Cond.code ({ cls := "DiaryHouse$Table", name := "watcherOf", desc := "(I)I" } : MethodName) prog_10_method_5_code (2 : Nat) (Option.some FieldType.int)) ∈ lw_tbl := tb_r (List.mem_of_getElem? (i := 1001) (by decide +kernel))
theorem tb1002 : (Cond.methodLink "DiaryHouseLaw" (166 : Nat) ({ cls := "DiaryHouse", name := "alike", desc := "(II)I" } : MethodName)) ∈ lw_tbl := tb_r (List.mem_of_getElem? (i := 1002) (by decide +kernel))
theorem tb1003 : (Cond.instanceMethod ({ cls := "DiaryHouse", name := "alike", desc := "(II)I" } : MethodName)) ∈ lw_tbl := tb_r (List.mem_of_getElem? (i := 1003) (by decide +kernel))
theorem tb1004 : (Cond.selects "DiaryHouse" ({ cls := "DiaryHouse", name := "alike", desc := "(II)I" } : MethodName) ({ cls := "DiaryHouse", name := "alike", desc := "(II)I" } : MethodName)) ∈ lw_tbl := tb_r (List.mem_of_getElem? (i := 1004) (by decide +kernel))
theorem tb1005 : (Cond.code ({ cls := "DiaryHouse", name := "alike", desc := "(II)I" } : MethodName) prog_1_method_57_code (3 : Nat) (Option.some FieldType.int)) ∈ lw_tbl := tb_r (List.mem_of_getElem? (i := 1005) (by decide +kernel))
theorem tb1006 : (Cond.methodLink "DiaryHouse" (388 : Nat) ({ cls := "DiaryHouse", name := "alikeTo", desc := "(LDiaryHouse$Person;I)I" } : MethodName)) ∈ lw_tbl := tb_r (List.mem_of_getElem? (i := 1006) (by decide +kernel))
theorem tb1008 : (Cond.instanceMethod ({ cls := "DiaryHouse", name := "alikeTo", desc := "(LDiaryHouse$Person;I)I" } : MethodName)) ∈ lw_tbl := tb_r (List.mem_of_getElem? (i := 1008) (by decide +kernel))
theorem tb1009 : (Cond.code ({ cls := "DiaryHouse", name := "alikeTo", desc := "(LDiaryHouse$Person;I)I" } : MethodName) prog_1_method_58_code (5 : Nat) (Option.some FieldType.int)) ∈ lw_tbl := tb_r (List.mem_of_getElem? (i := 1009) (by decide +kernel))
theorem tb1010 : (Cond.methodLink "DiaryHouse" (392 : Nat) ({ cls := "DiaryHouse$Person", name := "isLike", desc := "(LDiaryHouse$Person;I)Z" } : MethodName)) ∈ lw_tbl := tb_r (List.mem_of_getElem? (i := 1010) (by decide +kernel))
theorem tb1011 : (Cond.instanceMethod ({ cls := "DiaryHouse$Person", name := "isLike", desc := "(LDiaryHouse$Person;I)Z" } : MethodName)) ∈ lw_tbl := tb_r (List.mem_of_getElem? (i := 1011) (by decide +kernel))
theorem tb1012 : (Cond.selects "DiaryHouse$Person" ({ cls := "DiaryHouse$Person", name := "isLike", desc := "(LDiaryHouse$Person;I)Z" } : MethodName) ({ cls := "DiaryHouse$Person", name := "isLike", desc := "(LDiaryHouse$Person;I)Z" } : MethodName)) ∈ lw_tbl := tb_r (List.mem_of_getElem? (i := 1012) (by decide +kernel))
theorem tb1013 : (Cond.code ({ cls := "DiaryHouse$Person", name := "isLike", desc := "(LDiaryHouse$Person;I)Z" } : MethodName) prog_6_method_3_code (3 : Nat) (Option.some FieldType.boolean)) ∈ lw_tbl := tb_r (List.mem_of_getElem? (i := 1013) (by decide +kernel))
theorem tb1014 : (Cond.methodLink "DiaryHouseLaw" (170 : Nat) ({ cls := "DiaryHouse", name := "hide", desc := "(I)I" } : MethodName)) ∈ lw_tbl := tb_r (List.mem_of_getElem? (i := 1014) (by decide +kernel))
theorem tb1015 : (Cond.instanceMethod ({ cls := "DiaryHouse", name := "hide", desc := "(I)I" } : MethodName)) ∈ lw_tbl := tb_r (List.mem_of_getElem? (i := 1015) (by decide +kernel))
theorem tb1016 : (Cond.selects "DiaryHouse" ({ cls := "DiaryHouse", name := "hide", desc := "(I)I" } : MethodName) ({ cls := "DiaryHouse", name := "hide", desc := "(I)I" } : MethodName)) ∈ lw_tbl := tb_r (List.mem_of_getElem? (i := 1016) (by decide +kernel))
theorem tb1017 : (Cond.code ({ cls := "DiaryHouse", name := "hide", desc := "(I)I" } : MethodName) prog_1_method_59_code (6 : Nat) (Option.some FieldType.int)) ∈ lw_tbl := tb_r (List.mem_of_getElem? (i := 1017) (by decide +kernel))
theorem tb1020 : (Cond.methodLink "DiaryHouse" (399 : Nat) ({ cls := "DiaryHouse", name := "allHaveAlike", desc := "(II)Z" } : MethodName)) ∈ lw_tbl := tb_r (List.mem_of_getElem? (i := 1020) (by decide +kernel))
theorem tb1022 : (Cond.instanceMethod ({ cls := "DiaryHouse", name := "allHaveAlike", desc := "(II)Z" } : MethodName)) ∈ lw_tbl := tb_r (List.mem_of_getElem? (i := 1022) (by decide +kernel))
theorem tb1023 : (Cond.code ({ cls := "DiaryHouse", name := "allHaveAlike", desc := "(II)Z" } : MethodName) prog_1_method_60_code (4 : Nat) (Option.some FieldType.boolean)) ∈ lw_tbl := tb_r (List.mem_of_getElem? (i := 1023) (by decide +kernel))
theorem tb1024 : (Cond.methodLink "DiaryHouseLaw" (174 : Nat) ({ cls := "DiaryHouse", name := "question", desc := "(II)I" } : MethodName)) ∈ lw_tbl := tb_r (List.mem_of_getElem? (i := 1024) (by decide +kernel))
theorem tb1025 : (Cond.instanceMethod ({ cls := "DiaryHouse", name := "question", desc := "(II)I" } : MethodName)) ∈ lw_tbl := tb_r (List.mem_of_getElem? (i := 1025) (by decide +kernel))
theorem tb1026 : (Cond.selects "DiaryHouse" ({ cls := "DiaryHouse", name := "question", desc := "(II)I" } : MethodName) ({ cls := "DiaryHouse", name := "question", desc := "(II)I" } : MethodName)) ∈ lw_tbl := tb_r (List.mem_of_getElem? (i := 1026) (by decide +kernel))
theorem tb1027 : (Cond.code ({ cls := "DiaryHouse", name := "question", desc := "(II)I" } : MethodName) prog_1_method_61_code (3 : Nat) (Option.some FieldType.int)) ∈ lw_tbl := tb_r (List.mem_of_getElem? (i := 1027) (by decide +kernel))
theorem tb1028 : (Cond.classLink "DiaryHouse" (402 : Nat) "DiaryHouse$Question") ∈ lw_tbl := tb_r (List.mem_of_getElem? (i := 1028) (by decide +kernel))
theorem tb1030 : (Cond.methodLink "DiaryHouse" (404 : Nat) ({ cls := "DiaryHouse$Question", name := "<init>", desc := "(II)V" } : MethodName)) ∈ lw_tbl := tb_r (List.mem_of_getElem? (i := 1030) (by decide +kernel))
theorem tb1031 : (Cond.instanceMethod ({ cls := "DiaryHouse$Question", name := "<init>", desc := "(II)V" } : MethodName)) ∈ lw_tbl := tb_r (List.mem_of_getElem? (i := 1031) (by decide +kernel))
theorem tb1032 : (Cond.code ({ cls := "DiaryHouse$Question", name := "<init>", desc := "(II)V" } : MethodName) prog_7_method_1_code (3 : Nat) (Option.none : Option FieldType)) ∈ lw_tbl := tb_r (List.mem_of_getElem? (i := 1032) (by decide +kernel))
theorem tb1033 : (Cond.methodLink "DiaryHouse$Question" (1 : Nat) ({ cls := "java/lang/Object", name := "<init>", desc := "()V" } : MethodName)) ∈ lw_tbl := tb_r (List.mem_of_getElem? (i := 1033) (by decide +kernel))
theorem tb1034 : (Cond.fieldLink "DiaryHouse$Question" (7 : Nat) "DiaryHouse$Question" "price" "I") ∈ lw_tbl := tb_r (List.mem_of_getElem? (i := 1034) (by decide +kernel))
theorem tb1035 : (Cond.fieldLinkNest "DiaryHouse" (418 : Nat) "DiaryHouse$Question" "price" "I" "DiaryHouse") ∈ lw_tbl := tb_r (List.mem_of_getElem? (i := 1035) (by decide +kernel))
theorem tb1036 : (Cond.fieldLink "DiaryHouse$Question" (13 : Nat) "DiaryHouse$Question" "sorts" "I") ∈ lw_tbl := tb_r (List.mem_of_getElem? (i := 1036) (by decide +kernel))
theorem tb1037 : (Cond.fieldLinkNest "DiaryHouse" (421 : Nat) "DiaryHouse$Question" "sorts" "I" "DiaryHouse") ∈ lw_tbl := tb_r (List.mem_of_getElem? (i := 1037) (by decide +kernel))
theorem tb1043 : (Cond.methodLink "DiaryHouseLaw" (178 : Nat) ({ cls := "DiaryHouse", name := "buy", desc := "(I)I" } : MethodName)) ∈ lw_tbl := tb_r (List.mem_of_getElem? (i := 1043) (by decide +kernel))
theorem tb1044 : (Cond.instanceMethod ({ cls := "DiaryHouse", name := "buy", desc := "(I)I" } : MethodName)) ∈ lw_tbl := tb_r (List.mem_of_getElem? (i := 1044) (by decide +kernel))
theorem tb1045 : (Cond.selects "DiaryHouse" ({ cls := "DiaryHouse", name := "buy", desc := "(I)I" } : MethodName) ({ cls := "DiaryHouse", name := "buy", desc := "(I)I" } : MethodName)) ∈ lw_tbl := tb_r (List.mem_of_getElem? (i := 1045) (by decide +kernel))
theorem tb1046 : (Cond.code ({ cls := "DiaryHouse", name := "buy", desc := "(I)I" } : MethodName) prog_1_method_62_code (9 : Nat) (Option.some FieldType.int)) ∈ lw_tbl := tb_r (List.mem_of_getElem? (i := 1046) (by decide +kernel))
theorem tb1047 : (Cond.methodLink "DiaryHouse" (406 : Nat) ({ cls := "DiaryHouse", name := "isCoin", desc := "(I)Z" } : MethodName)) ∈ lw_tbl := tb_r (List.mem_of_getElem? (i := 1047) (by decide +kernel))
theorem tb1048 : (Cond.static ({ cls := "DiaryHouse", name := "isCoin", desc := "(I)Z" } : MethodName)) ∈ lw_tbl := tb_r (List.mem_of_getElem? (i := 1048) (by decide +kernel))
theorem tb1049 : (Cond.code ({ cls := "DiaryHouse", name := "isCoin", desc := "(I)Z" } : MethodName) prog_1_method_85_code (1 : Nat) (Option.some FieldType.boolean)) ∈ lw_tbl := tb_r (List.mem_of_getElem? (i := 1049) (by decide +kernel))
theorem tb1050 : (Cond.methodLink "DiaryHouse" (409 : Nat) ({ cls := "DiaryHouse", name := "priceOf", desc := "(I)I" } : MethodName)) ∈ lw_tbl := tb_r (List.mem_of_getElem? (i := 1050) (by decide +kernel))
theorem tb1052 : (Cond.instanceMethod ({ cls := "DiaryHouse", name := "priceOf", desc := "(I)I" } : MethodName)) ∈ lw_tbl := tb_r (List.mem_of_getElem? (i := 1052) (by decide +kernel))
theorem tb1053 : (Cond.code ({ cls := "DiaryHouse", name := "priceOf", desc := "(I)I" } : MethodName) prog_1_method_64_code (4 : Nat) (Option.some FieldType.int)) ∈ lw_tbl := tb_r (List.mem_of_getElem? (i := 1053) (by decide +kernel))
theorem tb1054 : (Cond.methodLink "DiaryHouse" (412 : Nat) ({ cls := "DiaryHouse", name := "sortsOf", desc := "(I)I" } : MethodName)) ∈ lw_tbl := tb_r (List.mem_of_getElem? (i := 1054) (by decide +kernel))
theorem tb1056 : (Cond.instanceMethod ({ cls := "DiaryHouse", name := "sortsOf", desc := "(I)I" } : MethodName)) ∈ lw_tbl := tb_r (List.mem_of_getElem? (i := 1056) (by decide +kernel))
theorem tb1057 : (Cond.code ({ cls := "DiaryHouse", name := "sortsOf", desc := "(I)I" } : MethodName) prog_1_method_65_code (4 : Nat) (Option.some FieldType.int)) ∈ lw_tbl := tb_r (List.mem_of_getElem? (i := 1057) (by decide +kernel))
theorem tb1058 : (Cond.methodLink "DiaryHouse" (424 : Nat) ({ cls := "java/lang/Integer", name := "bitCount", desc := "(I)I" } : MethodName)) ∈ lw_tbl := tb_r (List.mem_of_getElem? (i := 1058) (by decide +kernel))
theorem tb1059 : (Cond.static ({ cls := "java/lang/Integer", name := "bitCount", desc := "(I)I" } : MethodName)) ∈ lw_tbl := tb_r (List.mem_of_getElem? (i := 1059) (by decide +kernel))
theorem tb1060 : (Cond.code ({ cls := "java/lang/Integer", name := "bitCount", desc := "(I)I" } : MethodName) prog_21_method_49_code (1 : Nat) (Option.some FieldType.int)) ∈ lw_tbl := tb_r (List.mem_of_getElem? (i := 1060) (by decide +kernel))
theorem tb1061 : (Cond.constant "java/lang/Integer" (265 : Nat) (1431655765 : Int32)) ∈ lw_tbl := tb_r (List.mem_of_getElem? (i := 1061) (by decide +kernel))
theorem tb1062 : (Cond.constant "java/lang/Integer" (266 : Nat) (858993459 : Int32)) ∈ lw_tbl := tb_r (List.mem_of_getElem? (i := 1062) (by decide +kernel))
theorem tb1063 : (Cond.constant "java/lang/Integer" (267 : Nat) (252645135 : Int32)) ∈ lw_tbl := tb_r (List.mem_of_getElem? (i := 1063) (by decide +kernel))
theorem tb1064 : (Cond.methodLink "DiaryHouse" (415 : Nat) ({ cls := "DiaryHouse", name := "hasTheFirstUnlike", desc := "(II)Z" } : MethodName)) ∈ lw_tbl := tb_r (List.mem_of_getElem? (i := 1064) (by decide +kernel))
theorem tb1065 : (Cond.static ({ cls := "DiaryHouse", name := "hasTheFirstUnlike", desc := "(II)Z" } : MethodName)) ∈ lw_tbl := tb_r (List.mem_of_getElem? (i := 1065) (by decide +kernel))
theorem tb1066 : (Cond.code ({ cls := "DiaryHouse", name := "hasTheFirstUnlike", desc := "(II)Z" } : MethodName) prog_1_method_63_code (3 : Nat) (Option.some FieldType.boolean)) ∈ lw_tbl := tb_r (List.mem_of_getElem? (i := 1066) (by decide +kernel))
theorem tb1067 : (Cond.methodLink "DiaryHouseLaw" (182 : Nat) ({ cls := "DiaryHouse", name := "judge", desc := "(II)I" } : MethodName)) ∈ lw_tbl := tb_r (List.mem_of_getElem? (i := 1067) (by decide +kernel))
theorem tb1068 : (Cond.instanceMethod ({ cls := "DiaryHouse", name := "judge", desc := "(II)I" } : MethodName)) ∈ lw_tbl := tb_r (List.mem_of_getElem? (i := 1068) (by decide +kernel))
theorem tb1069 : (Cond.selects "DiaryHouse" ({ cls := "DiaryHouse", name := "judge", desc := "(II)I" } : MethodName) ({ cls := "DiaryHouse", name := "judge", desc := "(II)I" } : MethodName)) ∈ lw_tbl := tb_r (List.mem_of_getElem? (i := 1069) (by decide +kernel))
theorem tb1070 : (Cond.code ({ cls := "DiaryHouse", name := "judge", desc := "(II)I" } : MethodName) prog_1_method_66_code (3 : Nat) (Option.some FieldType.int)) ∈ lw_tbl := tb_r (List.mem_of_getElem? (i := 1070) (by decide +kernel))
theorem tb1071 : (Cond.methodLink "DiaryHouseLaw" (188 : Nat) ({ cls := "DiaryHouse", name := "lot", desc := "(IJI)I" } : MethodName)) ∈ lw_tbl := tb_r (List.mem_of_getElem? (i := 1071) (by decide +kernel))
theorem tb1072 : (Cond.instanceMethod ({ cls := "DiaryHouse", name := "lot", desc := "(IJI)I" } : MethodName)) ∈ lw_tbl := tb_r (List.mem_of_getElem? (i := 1072) (by decide +kernel))
theorem tb1073 : (Cond.selects "DiaryHouse" ({ cls := "DiaryHouse", name := "lot", desc := "(IJI)I" } : MethodName) ({ cls := "DiaryHouse", name := "lot", desc := "(IJI)I" } : MethodName)) ∈ lw_tbl := tb_r (List.mem_of_getElem? (i := 1073) (by decide +kernel))
theorem tb1074 : (Cond.code ({ cls := "DiaryHouse", name := "lot", desc := "(IJI)I" } : MethodName) prog_1_method_67_code (5 : Nat) (Option.some FieldType.int)) ∈ lw_tbl := tb_r (List.mem_of_getElem? (i := 1074) (by decide +kernel))
theorem tb1075 : (Cond.methodLink "DiaryHouse" (429 : Nat) ({ cls := "DiaryHouse", name := "isLotSize", desc := "(I)Z" } : MethodName)) ∈ lw_tbl := tb_r (List.mem_of_getElem? (i := 1075) (by decide +kernel))
theorem tb1077 : (Cond.instanceMethod ({ cls := "DiaryHouse", name := "isLotSize", desc := "(I)Z" } : MethodName)) ∈ lw_tbl := tb_r (List.mem_of_getElem? (i := 1077) (by decide +kernel))
theorem tb1078 : (Cond.code ({ cls := "DiaryHouse", name := "isLotSize", desc := "(I)Z" } : MethodName) prog_1_method_86_code (2 : Nat) (Option.some FieldType.boolean)) ∈ lw_tbl := tb_r (List.mem_of_getElem? (i := 1078) (by decide +kernel))
theorem tb1079 : (Cond.methodLink "DiaryHouse" (432 : Nat) ({ cls := "DiaryHouse", name := "draw", desc := "(IJ)V" } : MethodName)) ∈ lw_tbl := tb_r (List.mem_of_getElem? (i := 1079) (by decide +kernel))
theorem tb1081 : (Cond.instanceMethod ({ cls := "DiaryHouse", name := "draw", desc := "(IJ)V" } : MethodName)) ∈ lw_tbl := tb_r (List.mem_of_getElem? (i := 1081) (by decide +kernel))
theorem tb1082 : (Cond.code ({ cls := "DiaryHouse", name := "draw", desc := "(IJ)V" } : MethodName) prog_1_method_68_code (10 : Nat) (Option.none : Option FieldType)) ∈ lw_tbl := tb_r (List.mem_of_getElem? (i := 1082) (by decide +kernel))
theorem tb1083 : (Cond.constantLong "DiaryHouse" (436 : Nat) (6364136223846793005 : Int64)) ∈ lw_tbl := tb_r (List.mem_of_getElem? (i := 1083) (by decide +kernel))
theorem tb1084 : (Cond.constantLong "DiaryHouse" (438 : Nat) (1442695040888963407 : Int64)) ∈ lw_tbl := tb_r (List.mem_of_getElem? (i := 1084) (by decide +kernel))
theorem tb1085 : (Cond.methodLink "DiaryHouseLaw" (193 : Nat) ({ cls := "DiaryHouse", name := "beside", desc := "(IJI)I" } : MethodName)) ∈ lw_tbl := tb_r (List.mem_of_getElem? (i := 1085) (by decide +kernel))
theorem tb1086 : (Cond.instanceMethod ({ cls := "DiaryHouse", name := "beside", desc := "(IJI)I" } : MethodName)) ∈ lw_tbl := tb_r (List.mem_of_getElem? (i := 1086) (by decide +kernel))
theorem tb1087 : (Cond.selects "DiaryHouse" ({ cls := "DiaryHouse", name := "beside", desc := "(IJI)I" } : MethodName) ({ cls := "DiaryHouse", name := "beside", desc := "(IJI)I" } : MethodName)) ∈ lw_tbl := tb_r (List.mem_of_getElem? (i := 1087) (by decide +kernel))
theorem tb1088 : (Cond.code ({ cls := "DiaryHouse", name := "beside", desc := "(IJI)I" } : MethodName) prog_1_method_69_code (8 : Nat) (Option.some FieldType.int)) ∈ lw_tbl := tb_r (List.mem_of_getElem? (i := 1088) (by decide +kernel))
theorem tb1089 : (Cond.methodLink "DiaryHouse" (440 : Nat) ({ cls := "DiaryHouse", name := "isDrawn", desc := "(II)Z" } : MethodName)) ∈ lw_tbl := tb_r (List.mem_of_getElem? (i := 1089) (by decide +kernel))
theorem tb1091 : (Cond.instanceMethod ({ cls := "DiaryHouse", name := "isDrawn", desc := "(II)Z" } : MethodName)) ∈ lw_tbl := tb_r (List.mem_of_getElem? (i := 1091) (by decide +kernel))
theorem tb1092 : (Cond.code ({ cls := "DiaryHouse", name := "isDrawn", desc := "(II)Z" } : MethodName) prog_1_method_70_code (4 : Nat) (Option.some FieldType.boolean)) ∈ lw_tbl := tb_r (List.mem_of_getElem? (i := 1092) (by decide +kernel))
theorem tb1093 : (Cond.methodLink "DiaryHouseLaw" (197 : Nat) ({ cls := "DiaryHouse", name := "count", desc := "(I)I" } : MethodName)) ∈ lw_tbl := tb_r (List.mem_of_getElem? (i := 1093) (by decide +kernel))
theorem tb1094 : (Cond.instanceMethod ({ cls := "DiaryHouse", name := "count", desc := "(I)I" } : MethodName)) ∈ lw_tbl := tb_r (List.mem_of_getElem? (i := 1094) (by decide +kernel))
theorem tb1095 : (Cond.selects "DiaryHouse" ({ cls := "DiaryHouse", name := "count", desc := "(I)I" } : MethodName) ({ cls := "DiaryHouse", name := "count", desc := "(I)I" } : MethodName)) ∈ lw_tbl := tb_r (List.mem_of_getElem? (i := 1095) (by decide +kernel))
theorem tb1096 : (Cond.code ({ cls := "DiaryHouse", name := "count", desc := "(I)I" } : MethodName) prog_1_method_71_code (2 : Nat) (Option.some FieldType.int)) ∈ lw_tbl := tb_r (List.mem_of_getElem? (i := 1096) (by decide +kernel))
theorem tb1097 : (Cond.methodLink "DiaryHouse" (443 : Nat) ({ cls := "DiaryHouse$Table", name := "watchers", desc := "()I" } : MethodName)) ∈ lw_tbl := tb_r (List.mem_of_getElem? (i := 1097) (by decide +kernel))
theorem tb1098 : (Cond.instanceMethod ({ cls := "DiaryHouse$Table", name := "watchers", desc := "()I" } : MethodName)) ∈ lw_tbl := tb_r (List.mem_of_getElem? (i := 1098) (by decide +kernel))
theorem tb1099 : (Cond.selects "DiaryHouse$Table" ({ cls := "DiaryHouse$Table", name := "watchers", desc := "()I" } : MethodName) ({ cls := "DiaryHouse$Table", name := "watchers", desc := "()I" } : MethodName)) ∈ lw_tbl := tb_r (List.mem_of_getElem? (i := 1099) (by decide +kernel))
theorem tb1100 : (Cond.code ({ cls := "DiaryHouse$Table", name := "watchers", desc := "()I" } : MethodName) prog_10_method_2_code (1 : Nat) (Option.some FieldType.int)) ∈ lw_tbl := tb_r (List.mem_of_getElem? (i := 1100) (by decide +kernel))
theorem tb1101 : (Cond.methodLink "DiaryHouse" (446 : Nat) ({ cls := "DiaryHouse", name := "personsGone", desc := "()I" } : MethodName)) ∈ lw_tbl := tb_r (List.mem_of_getElem? (i := 1101) (by decide +kernel))
theorem tb1103 : (Cond.instanceMethod ({ cls := "DiaryHouse", name := "personsGone", desc := "()I" } : MethodName)) ∈ lw_tbl := tb_r (List.mem_of_getElem? (i := 1103) (by decide +kernel))
theorem tb1104 : (Cond.code ({ cls := "DiaryHouse", name := "personsGone", desc := "()I" } : MethodName) prog_1_method_72_code (3 : Nat) (Option.some FieldType.int)) ∈ lw_tbl := tb_r (List.mem_of_getElem? (i := 1104) (by decide +kernel))
theorem tb1105 : (Cond.methodLink "DiaryHouseLaw" (34 : Nat) ({ cls := "DiaryHouseLaw", name := "told", desc := "(LDiaryHouse;II[J)I" } : MethodName)) ∈ lw_tbl := tb_r (List.mem_of_getElem? (i := 1105) (by decide +kernel))
theorem tb1109 : (Cond.methodLink "DiaryHouseLaw" (7 : Nat) ({ cls := "DiaryHouse", name := "told", desc := "(II)I" } : MethodName)) ∈ lw_tbl := tb_r (List.mem_of_getElem? (i := 1109) (by decide +kernel))
theorem tb1110 : (Cond.instanceMethod ({ cls := "DiaryHouse", name := "told", desc := "(II)I" } : MethodName)) ∈ lw_tbl := tb_r (List.mem_of_getElem? (i := 1110) (by decide +kernel))
theorem tb1111 : (Cond.selects "DiaryHouse" ({ cls := "DiaryHouse", name := "told", desc := "(II)I" } : MethodName) ({ cls := "DiaryHouse", name := "told", desc := "(II)I" } : MethodName)) ∈ lw_tbl := tb_r (List.mem_of_getElem? (i := 1111) (by decide +kernel))
theorem tb1112 : (Cond.code ({ cls := "DiaryHouse", name := "told", desc := "(II)I" } : MethodName) prog_1_method_6_code (3 : Nat) (Option.some FieldType.int)) ∈ lw_tbl := tb_r (List.mem_of_getElem? (i := 1112) (by decide +kernel))
theorem tb1113 : (Cond.classLink "DiaryHouse" (139 : Nat) "java/util/NoSuchElementException") ∈ lw_tbl := tb_r (List.mem_of_getElem? (i := 1113) (by decide +kernel))
theorem tb1153 : (Cond.methodLink "DiaryHouse" (143 : Nat) ({ cls := "java/util/NoSuchElementException", name := "<init>", desc := "(Ljava/lang/String;)V" } : MethodName)) ∈ lw_tbl := tb_r (List.mem_of_getElem? (i := 1153) (by decide +kernel))
theorem tb1178 : (Cond.methodLink "DiaryHouse" (146 : Nat) ({ cls := "DiaryHouse$Line", name := "part", desc := "(I)I" } : MethodName)) ∈ lw_tbl := tb_r (List.mem_of_getElem? (i := 1178) (by decide +kernel))
theorem tb1179 : (Cond.instanceMethod ({ cls := "DiaryHouse$Line", name := "part", desc := "(I)I" } : MethodName)) ∈ lw_tbl := tb_r (List.mem_of_getElem? (i := 1179) (by decide +kernel))
theorem tb1180 : (Cond.selects "DiaryHouse$Line" ({ cls := "DiaryHouse$Line", name := "part", desc := "(I)I" } : MethodName) ({ cls := "DiaryHouse$Line", name := "part", desc := "(I)I" } : MethodName)) ∈ lw_tbl := tb_r (List.mem_of_getElem? (i := 1180) (by decide +kernel))
theorem tb1181 : (Cond.code ({ cls := "DiaryHouse$Line", name := "part", desc := "(I)I" } : MethodName) prog_3_method_3_code (2 : Nat) (Option.some FieldType.int)) ∈ lw_tbl := tb_r (List.mem_of_getElem? (i := 1181) (by decide +kernel))
theorem tb1182 : (Cond.classLink "DiaryHouseLaw" (16 : Nat) "DiaryHouseModel") ∈ lw_tbl := tb_r (List.mem_of_getElem? (i := 1182) (by decide +kernel))
theorem tb1184 : (Cond.methodLink "DiaryHouseLaw" (18 : Nat) ({ cls := "DiaryHouseModel", name := "<init>", desc := "()V" } : MethodName)) ∈ lw_tbl := tb_r (List.mem_of_getElem? (i := 1184) (by decide +kernel))
theorem tb1185 : (Cond.instanceMethod ({ cls := "DiaryHouseModel", name := "<init>", desc := "()V" } : MethodName)) ∈ lw_tbl := tb_r (List.mem_of_getElem? (i := 1185) (by decide +kernel))
theorem tb1186 : (Cond.code ({ cls := "DiaryHouseModel", name := "<init>", desc := "()V" } : MethodName) prog_14_method_1_code (1 : Nat) (Option.none : Option FieldType)) ∈ lw_tbl := tb_r (List.mem_of_getElem? (i := 1186) (by decide +kernel))
theorem tb1187 : (Cond.methodLink "DiaryHouseModel" (1 : Nat) ({ cls := "java/lang/Object", name := "<init>", desc := "()V" } : MethodName)) ∈ lw_tbl := tb_r (List.mem_of_getElem? (i := 1187) (by decide +kernel))
theorem tb1188 : (Cond.fieldLink "DiaryHouseModel" (138 : Nat) "DiaryHouseModel" "thrown" "I") ∈ lw_tbl := tb_r (List.mem_of_getElem? (i := 1188) (by decide +kernel))
theorem tb1189 : (Cond.fieldLink "DiaryHouseModel" (142 : Nat) "DiaryHouseModel" "now" "I") ∈ lw_tbl := tb_r (List.mem_of_getElem? (i := 1189) (by decide +kernel))
theorem tb1190 : (Cond.fieldLink "DiaryHouseModel" (9 : Nat) "DiaryHouseModel" "place" "[I") ∈ lw_tbl := tb_r (List.mem_of_getElem? (i := 1190) (by decide +kernel))
theorem tb1191 : (Cond.fieldLink "DiaryHouseModel" (13 : Nat) "DiaryHouseModel" "age" "[I") ∈ lw_tbl := tb_r (List.mem_of_getElem? (i := 1191) (by decide +kernel))
theorem tb1192 : (Cond.fieldLink "DiaryHouseModel" (16 : Nat) "DiaryHouseModel" "work" "[I") ∈ lw_tbl := tb_r (List.mem_of_getElem? (i := 1192) (by decide +kernel))
theorem tb1193 : (Cond.fieldLink "DiaryHouseModel" (19 : Nat) "DiaryHouseModel" "stopOf" "[I") ∈ lw_tbl := tb_r (List.mem_of_getElem? (i := 1193) (by decide +kernel))
theorem tb1194 : (Cond.fieldLink "DiaryHouseModel" (22 : Nat) "DiaryHouseModel" "stopDay" "[I") ∈ lw_tbl := tb_r (List.mem_of_getElem? (i := 1194) (by decide +kernel))
theorem tb1195 : (Cond.fieldLink "DiaryHouseModel" (25 : Nat) "DiaryHouseModel" "stopTold" "[I") ∈ lw_tbl := tb_r (List.mem_of_getElem? (i := 1195) (by decide +kernel))
theorem tb1196 : (Cond.fieldLink "DiaryHouseModel" (28 : Nat) "DiaryHouseModel" "lineOf" "[I") ∈ lw_tbl := tb_r (List.mem_of_getElem? (i := 1196) (by decide +kernel))
theorem tb1197 : (Cond.fieldLink "DiaryHouseModel" (31 : Nat) "DiaryHouseModel" "lineDay" "[I") ∈ lw_tbl := tb_r (List.mem_of_getElem? (i := 1197) (by decide +kernel))
theorem tb1198 : (Cond.fieldLink "DiaryHouseModel" (34 : Nat) "DiaryHouseModel" "lineSort" "[I") ∈ lw_tbl := tb_r (List.mem_of_getElem? (i := 1198) (by decide +kernel))
theorem tb1199 : (Cond.fieldLink "DiaryHouseModel" (37 : Nat) "DiaryHouseModel" "lineMood" "[I") ∈ lw_tbl := tb_r (List.mem_of_getElem? (i := 1199) (by decide +kernel))
theorem tb1200 : (Cond.fieldLink "DiaryHouseModel" (40 : Nat) "DiaryHouseModel" "lineSaying" "[I") ∈ lw_tbl := tb_r (List.mem_of_getElem? (i := 1200) (by decide +kernel))
theorem tb1201 : (Cond.fieldLink "DiaryHouseModel" (43 : Nat) "DiaryHouseModel" "lineFrom" "[I") ∈ lw_tbl := tb_r (List.mem_of_getElem? (i := 1201) (by decide +kernel))
theorem tb1202 : (Cond.fieldLink "DiaryHouseModel" (46 : Nat) "DiaryHouseModel" "lineTold" "[I") ∈ lw_tbl := tb_r (List.mem_of_getElem? (i := 1202) (by decide +kernel))
theorem tb1203 : (Cond.fieldLink "DiaryHouseModel" (149 : Nat) "DiaryHouseModel" "persons" "I") ∈ lw_tbl := tb_r (List.mem_of_getElem? (i := 1203) (by decide +kernel))
theorem tb1204 : (Cond.fieldLink "DiaryHouseModel" (152 : Nat) "DiaryHouseModel" "lines" "I") ∈ lw_tbl := tb_r (List.mem_of_getElem? (i := 1204) (by decide +kernel))
theorem tb1205 : (Cond.fieldLink "DiaryHouseModel" (162 : Nat) "DiaryHouseModel" "stops" "I") ∈ lw_tbl := tb_r (List.mem_of_getElem? (i := 1205) (by decide +kernel))
theorem tb1206 : (Cond.fieldLink "DiaryHouseModel" (49 : Nat) "DiaryHouseModel" "tape" "[B") ∈ lw_tbl := tb_r (List.mem_of_getElem? (i := 1206) (by decide +kernel))
theorem tb1207 : (Cond.fieldLink "DiaryHouseModel" (53 : Nat) "DiaryHouseModel" "ruleText" "[B") ∈ lw_tbl := tb_r (List.mem_of_getElem? (i := 1207) (by decide +kernel))
theorem tb1208 : (Cond.fieldLink "DiaryHouseModel" (56 : Nat) "DiaryHouseModel" "ruleLong" "[I") ∈ lw_tbl := tb_r (List.mem_of_getElem? (i := 1208) (by decide +kernel))
theorem tb1209 : (Cond.fieldLink "DiaryHouseModel" (59 : Nat) "DiaryHouseModel" "ruleFrom" "[I") ∈ lw_tbl := tb_r (List.mem_of_getElem? (i := 1209) (by decide +kernel))
theorem tb1210 : (Cond.fieldLink "DiaryHouseModel" (62 : Nat) "DiaryHouseModel" "ruleTold" "[I") ∈ lw_tbl := tb_r (List.mem_of_getElem? (i := 1210) (by decide +kernel))
theorem tb1211 : (Cond.fieldLink "DiaryHouseModel" (65 : Nat) "DiaryHouseModel" "letters" "[I") ∈ lw_tbl := tb_r (List.mem_of_getElem? (i := 1211) (by decide +kernel))
theorem tb1212 : (Cond.fieldLink "DiaryHouseModel" (178 : Nat) "DiaryHouseModel" "length" "I") ∈ lw_tbl := tb_r (List.mem_of_getElem? (i := 1212) (by decide +kernel))
theorem tb1213 : (Cond.fieldLink "DiaryHouseModel" (289 : Nat) "DiaryHouseModel" "rules" "I") ∈ lw_tbl := tb_r (List.mem_of_getElem? (i := 1213) (by decide +kernel))
theorem tb1214 : (Cond.fieldLink "DiaryHouseModel" (68 : Nat) "DiaryHouseModel" "text" "[B") ∈ lw_tbl := tb_r (List.mem_of_getElem? (i := 1214) (by decide +kernel))
theorem tb1215 : (Cond.fieldLink "DiaryHouseModel" (195 : Nat) "DiaryHouseModel" "begins" "I") ∈ lw_tbl := tb_r (List.mem_of_getElem? (i := 1215) (by decide +kernel))
theorem tb1216 : (Cond.fieldLink "DiaryHouseModel" (192 : Nat) "DiaryHouseModel" "ends" "I") ∈ lw_tbl := tb_r (List.mem_of_getElem? (i := 1216) (by decide +kernel))
theorem tb1217 : (Cond.fieldLink "DiaryHouseModel" (189 : Nat) "DiaryHouseModel" "at" "I") ∈ lw_tbl := tb_r (List.mem_of_getElem? (i := 1217) (by decide +kernel))
theorem tb1218 : (Cond.fieldLink "DiaryHouseModel" (198 : Nat) "DiaryHouseModel" "fault" "I") ∈ lw_tbl := tb_r (List.mem_of_getElem? (i := 1218) (by decide +kernel))
theorem tb1219 : (Cond.fieldLink "DiaryHouseModel" (201 : Nat) "DiaryHouseModel" "deep" "I") ∈ lw_tbl := tb_r (List.mem_of_getElem? (i := 1219) (by decide +kernel))
theorem tb1220 : (Cond.fieldLink "DiaryHouseModel" (276 : Nat) "DiaryHouseModel" "label" "I") ∈ lw_tbl := tb_r (List.mem_of_getElem? (i := 1220) (by decide +kernel))
theorem tb1221 : (Cond.fieldLink "DiaryHouseModel" (279 : Nat) "DiaryHouseModel" "found" "I") ∈ lw_tbl := tb_r (List.mem_of_getElem? (i := 1221) (by decide +kernel))
theorem tb1222 : (Cond.fieldLink "DiaryHouseModel" (272 : Nat) "DiaryHouseModel" "hasFound" "Z") ∈ lw_tbl := tb_r (List.mem_of_getElem? (i := 1222) (by decide +kernel))
theorem tb1223 : (Cond.fieldLink "DiaryHouseModel" (71 : Nat) "DiaryHouseModel" "chosen" "[I") ∈ lw_tbl := tb_r (List.mem_of_getElem? (i := 1223) (by decide +kernel))
theorem tb1224 : (Cond.fieldLink "DiaryHouseModel" (317 : Nat) "DiaryHouseModel" "chosenMany" "I") ∈ lw_tbl := tb_r (List.mem_of_getElem? (i := 1224) (by decide +kernel))
theorem tb1225 : (Cond.fieldLink "DiaryHouseModel" (320 : Nat) "DiaryHouseModel" "dayMany" "I") ∈ lw_tbl := tb_r (List.mem_of_getElem? (i := 1225) (by decide +kernel))
theorem tb1226 : (Cond.fieldLink "DiaryHouseModel" (74 : Nat) "DiaryHouseModel" "happenPlace" "[I") ∈ lw_tbl := tb_r (List.mem_of_getElem? (i := 1226) (by decide +kernel))
theorem tb1227 : (Cond.fieldLink "DiaryHouseModel" (77 : Nat) "DiaryHouseModel" "happenDay" "[I") ∈ lw_tbl := tb_r (List.mem_of_getElem? (i := 1227) (by decide +kernel))
theorem tb1228 : (Cond.fieldLink "DiaryHouseModel" (80 : Nat) "DiaryHouseModel" "happenSort" "[I") ∈ lw_tbl := tb_r (List.mem_of_getElem? (i := 1228) (by decide +kernel))
theorem tb1229 : (Cond.fieldLink "DiaryHouseModel" (83 : Nat) "DiaryHouseModel" "happenTold" "[I") ∈ lw_tbl := tb_r (List.mem_of_getElem? (i := 1229) (by decide +kernel))
theorem tb1230 : (Cond.fieldLink "DiaryHouseModel" (86 : Nat) "DiaryHouseModel" "happened" "[Z") ∈ lw_tbl := tb_r (List.mem_of_getElem? (i := 1230) (by decide +kernel))
theorem tb1231 : (Cond.fieldLink "DiaryHouseModel" (90 : Nat) "DiaryHouseModel" "seen" "[Z") ∈ lw_tbl := tb_r (List.mem_of_getElem? (i := 1231) (by decide +kernel))
theorem tb1232 : (Cond.fieldLink "DiaryHouseModel" (329 : Nat) "DiaryHouseModel" "happenings" "I") ∈ lw_tbl := tb_r (List.mem_of_getElem? (i := 1232) (by decide +kernel))
theorem tb1233 : (Cond.fieldLink "DiaryHouseModel" (93 : Nat) "DiaryHouseModel" "markReader" "[I") ∈ lw_tbl := tb_r (List.mem_of_getElem? (i := 1233) (by decide +kernel))
theorem tb1234 : (Cond.fieldLink "DiaryHouseModel" (96 : Nat) "DiaryHouseModel" "markLine" "[I") ∈ lw_tbl := tb_r (List.mem_of_getElem? (i := 1234) (by decide +kernel))
theorem tb1235 : (Cond.fieldLink "DiaryHouseModel" (99 : Nat) "DiaryHouseModel" "markIs" "[I") ∈ lw_tbl := tb_r (List.mem_of_getElem? (i := 1235) (by decide +kernel))
theorem tb1236 : (Cond.fieldLink "DiaryHouseModel" (102 : Nat) "DiaryHouseModel" "markTold" "[I") ∈ lw_tbl := tb_r (List.mem_of_getElem? (i := 1236) (by decide +kernel))
theorem tb1237 : (Cond.fieldLink "DiaryHouseModel" (335 : Nat) "DiaryHouseModel" "marks" "I") ∈ lw_tbl := tb_r (List.mem_of_getElem? (i := 1237) (by decide +kernel))
theorem tb1238 : (Cond.fieldLink "DiaryHouseModel" (105 : Nat) "DiaryHouseModel" "land" "[I") ∈ lw_tbl := tb_r (List.mem_of_getElem? (i := 1238) (by decide +kernel))
theorem tb1239 : (Cond.fieldLink "DiaryHouseModel" (108 : Nat) "DiaryHouseModel" "moods" "[I") ∈ lw_tbl := tb_r (List.mem_of_getElem? (i := 1239) (by decide +kernel))
theorem tb1240 : (Cond.fieldLink "DiaryHouseModel" (353 : Nat) "DiaryHouseModel" "moodMany" "I") ∈ lw_tbl := tb_r (List.mem_of_getElem? (i := 1240) (by decide +kernel))
theorem tb1241 : (Cond.fieldLink "DiaryHouseModel" (111 : Nat) "DiaryHouseModel" "watchFrom" "[I") ∈ lw_tbl := tb_r (List.mem_of_getElem? (i := 1241) (by decide +kernel))
theorem tb1242 : (Cond.fieldLink "DiaryHouseModel" (114 : Nat) "DiaryHouseModel" "watchTo" "[I") ∈ lw_tbl := tb_r (List.mem_of_getElem? (i := 1242) (by decide +kernel))
theorem tb1243 : (Cond.fieldLink "DiaryHouseModel" (117 : Nat) "DiaryHouseModel" "wantPlace" "[I") ∈ lw_tbl := tb_r (List.mem_of_getElem? (i := 1243) (by decide +kernel))
theorem tb1244 : (Cond.fieldLink "DiaryHouseModel" (120 : Nat) "DiaryHouseModel" "wantHour" "[I") ∈ lw_tbl := tb_r (List.mem_of_getElem? (i := 1244) (by decide +kernel))
theorem tb1245 : (Cond.fieldLink "DiaryHouseModel" (123 : Nat) "DiaryHouseModel" "tried" "[I") ∈ lw_tbl := tb_r (List.mem_of_getElem? (i := 1245) (by decide +kernel))
theorem tb1246 : (Cond.fieldLink "DiaryHouseModel" (126 : Nat) "DiaryHouseModel" "bestTable" "[I") ∈ lw_tbl := tb_r (List.mem_of_getElem? (i := 1246) (by decide +kernel))
theorem tb1247 : (Cond.fieldLink "DiaryHouseModel" (369 : Nat) "DiaryHouseModel" "watchers" "I") ∈ lw_tbl := tb_r (List.mem_of_getElem? (i := 1247) (by decide +kernel))
theorem tb1248 : (Cond.fieldLink "DiaryHouseModel" (372 : Nat) "DiaryHouseModel" "wanted" "I") ∈ lw_tbl := tb_r (List.mem_of_getElem? (i := 1248) (by decide +kernel))
theorem tb1249 : (Cond.fieldLink "DiaryHouseModel" (375 : Nat) "DiaryHouseModel" "bestSeen" "I") ∈ lw_tbl := tb_r (List.mem_of_getElem? (i := 1249) (by decide +kernel))
theorem tb1250 : (Cond.fieldLink "DiaryHouseModel" (129 : Nat) "DiaryHouseModel" "price" "[I") ∈ lw_tbl := tb_r (List.mem_of_getElem? (i := 1250) (by decide +kernel))
theorem tb1251 : (Cond.fieldLink "DiaryHouseModel" (132 : Nat) "DiaryHouseModel" "tells" "[I") ∈ lw_tbl := tb_r (List.mem_of_getElem? (i := 1251) (by decide +kernel))
theorem tb1252 : (Cond.fieldLink "DiaryHouseModel" (135 : Nat) "DiaryHouseModel" "drawn" "[I") ∈ lw_tbl := tb_r (List.mem_of_getElem? (i := 1252) (by decide +kernel))
theorem tb1253 : (Cond.fieldLink "DiaryHouseModel" (393 : Nat) "DiaryHouseModel" "questions" "I") ∈ lw_tbl := tb_r (List.mem_of_getElem? (i := 1253) (by decide +kernel))
theorem tb1388 : (Cond.methodLink "DiaryHouseLaw" (40 : Nat) ({ cls := "DiaryHouseModel", name := "thrown", desc := "()I" } : MethodName)) ∈ lw_tbl := tb_r (List.mem_of_getElem? (i := 1388) (by decide +kernel))
theorem tb1389 : (Cond.instanceMethod ({ cls := "DiaryHouseModel", name := "thrown", desc := "()I" } : MethodName)) ∈ lw_tbl := tb_r (List.mem_of_getElem? (i := 1389) (by decide +kernel))
theorem tb1390 : (Cond.selects "DiaryHouseModel" ({ cls := "DiaryHouseModel", name := "thrown", desc := "()I" } : MethodName) ({ cls := "DiaryHouseModel", name := "thrown", desc := "()I" } : MethodName)) ∈ lw_tbl := tb_r (List.mem_of_getElem? (i := 1390) (by decide +kernel))
theorem tb1391 : (Cond.code ({ cls := "DiaryHouseModel", name := "thrown", desc := "()I" } : MethodName) prog_14_method_2_code (1 : Nat) (Option.some FieldType.int)) ∈ lw_tbl := tb_r (List.mem_of_getElem? (i := 1391) (by decide +kernel))
theorem tb1392 : (Cond.methodLink "DiaryHouseLaw" (23 : Nat) ({ cls := "DiaryHouseModel", name := "days", desc := "(I)I" } : MethodName)) ∈ lw_tbl := tb_r (List.mem_of_getElem? (i := 1392) (by decide +kernel))
theorem tb1393 : (Cond.instanceMethod ({ cls := "DiaryHouseModel", name := "days", desc := "(I)I" } : MethodName)) ∈ lw_tbl := tb_r (List.mem_of_getElem? (i := 1393) (by decide +kernel))
theorem tb1394 : (Cond.selects "DiaryHouseModel" ({ cls := "DiaryHouseModel", name := "days", desc := "(I)I" } : MethodName) ({ cls := "DiaryHouseModel", name := "days", desc := "(I)I" } : MethodName)) ∈ lw_tbl := tb_r (List.mem_of_getElem? (i := 1394) (by decide +kernel))
theorem tb1395 : (Cond.code ({ cls := "DiaryHouseModel", name := "days", desc := "(I)I" } : MethodName) prog_14_method_7_code (2 : Nat) (Option.some FieldType.int)) ∈ lw_tbl := tb_r (List.mem_of_getElem? (i := 1395) (by decide +kernel))
theorem tb1396 : (Cond.methodLink "DiaryHouseModel" (145 : Nat) ({ cls := "DiaryHouseModel", name := "isIn", desc := "(III)Z" } : MethodName)) ∈ lw_tbl := tb_r (List.mem_of_getElem? (i := 1396) (by decide +kernel))
theorem tb1397 : (Cond.static ({ cls := "DiaryHouseModel", name := "isIn", desc := "(III)Z" } : MethodName)) ∈ lw_tbl := tb_r (List.mem_of_getElem? (i := 1397) (by decide +kernel))
theorem tb1398 : (Cond.code ({ cls := "DiaryHouseModel", name := "isIn", desc := "(III)Z" } : MethodName) prog_14_method_3_code (3 : Nat) (Option.some FieldType.boolean)) ∈ lw_tbl := tb_r (List.mem_of_getElem? (i := 1398) (by decide +kernel))
theorem tb1399 : (Cond.methodLink "DiaryHouseLaw" (28 : Nat) ({ cls := "DiaryHouseModel", name := "person", desc := "(III)I" } : MethodName)) ∈ lw_tbl := tb_r (List.mem_of_getElem? (i := 1399) (by decide +kernel))
theorem tb1400 : (Cond.instanceMethod ({ cls := "DiaryHouseModel", name := "person", desc := "(III)I" } : MethodName)) ∈ lw_tbl := tb_r (List.mem_of_getElem? (i := 1400) (by decide +kernel))
theorem tb1401 : (Cond.selects "DiaryHouseModel" ({ cls := "DiaryHouseModel", name := "person", desc := "(III)I" } : MethodName) ({ cls := "DiaryHouseModel", name := "person", desc := "(III)I" } : MethodName)) ∈ lw_tbl := tb_r (List.mem_of_getElem? (i := 1401) (by decide +kernel))
theorem tb1402 : (Cond.code ({ cls := "DiaryHouseModel", name := "person", desc := "(III)I" } : MethodName) prog_14_method_11_code (4 : Nat) (Option.some FieldType.int)) ∈ lw_tbl := tb_r (List.mem_of_getElem? (i := 1402) (by decide +kernel))
theorem tb1403 : (Cond.methodLink "DiaryHouseLaw" (33 : Nat) ({ cls := "DiaryHouseModel", name := "line", desc := "(IIIIII)I" } : MethodName)) ∈ lw_tbl := tb_r (List.mem_of_getElem? (i := 1403) (by decide +kernel))
theorem tb1404 : (Cond.instanceMethod ({ cls := "DiaryHouseModel", name := "line", desc := "(IIIIII)I" } : MethodName)) ∈ lw_tbl := tb_r (List.mem_of_getElem? (i := 1404) (by decide +kernel))
theorem tb1405 : (Cond.selects "DiaryHouseModel" ({ cls := "DiaryHouseModel", name := "line", desc := "(IIIIII)I" } : MethodName) ({ cls := "DiaryHouseModel", name := "line", desc := "(IIIIII)I" } : MethodName)) ∈ lw_tbl := tb_r (List.mem_of_getElem? (i := 1405) (by decide +kernel))
theorem tb1406 : (Cond.code ({ cls := "DiaryHouseModel", name := "line", desc := "(IIIIII)I" } : MethodName) prog_14_method_14_code (8 : Nat) (Option.some FieldType.int)) ∈ lw_tbl := tb_r (List.mem_of_getElem? (i := 1406) (by decide +kernel))
theorem tb1407 : (Cond.methodLink "DiaryHouseModel" (165 : Nat) ({ cls := "DiaryHouseModel", name := "isPerson", desc := "(I)Z" } : MethodName)) ∈ lw_tbl := tb_r (List.mem_of_getElem? (i := 1407) (by decide +kernel))
theorem tb1409 : (Cond.instanceMethod ({ cls := "DiaryHouseModel", name := "isPerson", desc := "(I)Z" } : MethodName)) ∈ lw_tbl := tb_r (List.mem_of_getElem? (i := 1409) (by decide +kernel))
theorem tb1410 : (Cond.code ({ cls := "DiaryHouseModel", name := "isPerson", desc := "(I)Z" } : MethodName) prog_14_method_8_code (2 : Nat) (Option.some FieldType.boolean)) ∈ lw_tbl := tb_r (List.mem_of_getElem? (i := 1410) (by decide +kernel))
theorem tb1411 : (Cond.methodLink "DiaryHouseModel" (168 : Nat) ({ cls := "DiaryHouseModel", name := "isSort", desc := "(I)Z" } : MethodName)) ∈ lw_tbl := tb_r (List.mem_of_getElem? (i := 1411) (by decide +kernel))
theorem tb1412 : (Cond.static ({ cls := "DiaryHouseModel", name := "isSort", desc := "(I)Z" } : MethodName)) ∈ lw_tbl := tb_r (List.mem_of_getElem? (i := 1412) (by decide +kernel))
theorem tb1413 : (Cond.code ({ cls := "DiaryHouseModel", name := "isSort", desc := "(I)Z" } : MethodName) prog_14_method_6_code (1 : Nat) (Option.some FieldType.boolean)) ∈ lw_tbl := tb_r (List.mem_of_getElem? (i := 1413) (by decide +kernel))
theorem tb1414 : (Cond.methodLink "DiaryHouseModel" (171 : Nat) ({ cls := "DiaryHouseModel", name := "stopsFrom", desc := "(II)I" } : MethodName)) ∈ lw_tbl := tb_r (List.mem_of_getElem? (i := 1414) (by decide +kernel))
theorem tb1416 : (Cond.instanceMethod ({ cls := "DiaryHouseModel", name := "stopsFrom", desc := "(II)I" } : MethodName)) ∈ lw_tbl := tb_r (List.mem_of_getElem? (i := 1416) (by decide +kernel))
theorem tb1417 : (Cond.code ({ cls := "DiaryHouseModel", name := "stopsFrom", desc := "(II)I" } : MethodName) prog_14_method_13_code (5 : Nat) (Option.some FieldType.int)) ∈ lw_tbl := tb_r (List.mem_of_getElem? (i := 1417) (by decide +kernel))
theorem tb1418 : (Cond.methodLink "DiaryHouseLaw" (39 : Nat) ({ cls := "DiaryHouseModel", name := "told", desc := "(II)I" } : MethodName)) ∈ lw_tbl := tb_r (List.mem_of_getElem? (i := 1418) (by decide +kernel))
theorem tb1419 : (Cond.instanceMethod ({ cls := "DiaryHouseModel", name := "told", desc := "(II)I" } : MethodName)) ∈ lw_tbl := tb_r (List.mem_of_getElem? (i := 1419) (by decide +kernel))
theorem tb1420 : (Cond.selects "DiaryHouseModel" ({ cls := "DiaryHouseModel", name := "told", desc := "(II)I" } : MethodName) ({ cls := "DiaryHouseModel", name := "told", desc := "(II)I" } : MethodName)) ∈ lw_tbl := tb_r (List.mem_of_getElem? (i := 1420) (by decide +kernel))
theorem tb1421 : (Cond.code ({ cls := "DiaryHouseModel", name := "told", desc := "(II)I" } : MethodName) prog_14_method_15_code (3 : Nat) (Option.some FieldType.int)) ∈ lw_tbl := tb_r (List.mem_of_getElem? (i := 1421) (by decide +kernel))
theorem tb1422 : (Cond.methodLink "DiaryHouseModel" (155 : Nat) ({ cls := "DiaryHouseModel", name := "isLine", desc := "(I)Z" } : MethodName)) ∈ lw_tbl := tb_r (List.mem_of_getElem? (i := 1422) (by decide +kernel))
theorem tb1424 : (Cond.instanceMethod ({ cls := "DiaryHouseModel", name := "isLine", desc := "(I)Z" } : MethodName)) ∈ lw_tbl := tb_r (List.mem_of_getElem? (i := 1424) (by decide +kernel))
theorem tb1425 : (Cond.code ({ cls := "DiaryHouseModel", name := "isLine", desc := "(I)Z" } : MethodName) prog_14_method_9_code (2 : Nat) (Option.some FieldType.boolean)) ∈ lw_tbl := tb_r (List.mem_of_getElem? (i := 1425) (by decide +kernel))
theorem tb1426 : (Cond.methodLink "DiaryHouseLaw" (48 : Nat) ({ cls := "DiaryHouseModel", name := "stop", desc := "(II)Z" } : MethodName)) ∈ lw_tbl := tb_r (List.mem_of_getElem? (i := 1426) (by decide +kernel))
theorem tb1427 : (Cond.instanceMethod ({ cls := "DiaryHouseModel", name := "stop", desc := "(II)Z" } : MethodName)) ∈ lw_tbl := tb_r (List.mem_of_getElem? (i := 1427) (by decide +kernel))
theorem tb1428 : (Cond.selects "DiaryHouseModel" ({ cls := "DiaryHouseModel", name := "stop", desc := "(II)Z" } : MethodName) ({ cls := "DiaryHouseModel", name := "stop", desc := "(II)Z" } : MethodName)) ∈ lw_tbl := tb_r (List.mem_of_getElem? (i := 1428) (by decide +kernel))
theorem tb1429 : (Cond.code ({ cls := "DiaryHouseModel", name := "stop", desc := "(II)Z" } : MethodName) prog_14_method_16_code (3 : Nat) (Option.some FieldType.boolean)) ∈ lw_tbl := tb_r (List.mem_of_getElem? (i := 1429) (by decide +kernel))
theorem tb1430 : (Cond.methodLink "DiaryHouseModel" (175 : Nat) ({ cls := "DiaryHouseModel", name := "isDay", desc := "(I)Z" } : MethodName)) ∈ lw_tbl := tb_r (List.mem_of_getElem? (i := 1430) (by decide +kernel))
theorem tb1431 : (Cond.static ({ cls := "DiaryHouseModel", name := "isDay", desc := "(I)Z" } : MethodName)) ∈ lw_tbl := tb_r (List.mem_of_getElem? (i := 1431) (by decide +kernel))
theorem tb1432 : (Cond.code ({ cls := "DiaryHouseModel", name := "isDay", desc := "(I)Z" } : MethodName) prog_14_method_5_code (1 : Nat) (Option.some FieldType.boolean)) ∈ lw_tbl := tb_r (List.mem_of_getElem? (i := 1432) (by decide +kernel))
theorem tb1433 : (Cond.methodLink "DiaryHouseLaw" (52 : Nat) ({ cls := "DiaryHouseModel", name := "stopped", desc := "(II)I" } : MethodName)) ∈ lw_tbl := tb_r (List.mem_of_getElem? (i := 1433) (by decide +kernel))
theorem tb1434 : (Cond.instanceMethod ({ cls := "DiaryHouseModel", name := "stopped", desc := "(II)I" } : MethodName)) ∈ lw_tbl := tb_r (List.mem_of_getElem? (i := 1434) (by decide +kernel))
theorem tb1435 : (Cond.selects "DiaryHouseModel" ({ cls := "DiaryHouseModel", name := "stopped", desc := "(II)I" } : MethodName) ({ cls := "DiaryHouseModel", name := "stopped", desc := "(II)I" } : MethodName)) ∈ lw_tbl := tb_r (List.mem_of_getElem? (i := 1435) (by decide +kernel))
theorem tb1436 : (Cond.code ({ cls := "DiaryHouseModel", name := "stopped", desc := "(II)I" } : MethodName) prog_14_method_17_code (3 : Nat) (Option.some FieldType.int)) ∈ lw_tbl := tb_r (List.mem_of_getElem? (i := 1436) (by decide +kernel))
theorem tb1437 : (Cond.methodLink "DiaryHouseModel" (159 : Nat) ({ cls := "DiaryHouseModel", name := "isKnown", desc := "(I)Z" } : MethodName)) ∈ lw_tbl := tb_r (List.mem_of_getElem? (i := 1437) (by decide +kernel))
theorem tb1439 : (Cond.instanceMethod ({ cls := "DiaryHouseModel", name := "isKnown", desc := "(I)Z" } : MethodName)) ∈ lw_tbl := tb_r (List.mem_of_getElem? (i := 1439) (by decide +kernel))
theorem tb1440 : (Cond.code ({ cls := "DiaryHouseModel", name := "isKnown", desc := "(I)Z" } : MethodName) prog_14_method_4_code (2 : Nat) (Option.some FieldType.boolean)) ∈ lw_tbl := tb_r (List.mem_of_getElem? (i := 1440) (by decide +kernel))
theorem tb1441 : (Cond.methodLink "DiaryHouseLaw" (57 : Nat) ({ cls := "DiaryHouseModel", name := "feed", desc := "(IIIII)I" } : MethodName)) ∈ lw_tbl := tb_r (List.mem_of_getElem? (i := 1441) (by decide +kernel))
theorem tb1442 : (Cond.instanceMethod ({ cls := "DiaryHouseModel", name := "feed", desc := "(IIIII)I" } : MethodName)) ∈ lw_tbl := tb_r (List.mem_of_getElem? (i := 1442) (by decide +kernel))
theorem tb1443 : (Cond.selects "DiaryHouseModel" ({ cls := "DiaryHouseModel", name := "feed", desc := "(IIIII)I" } : MethodName) ({ cls := "DiaryHouseModel", name := "feed", desc := "(IIIII)I" } : MethodName)) ∈ lw_tbl := tb_r (List.mem_of_getElem? (i := 1443) (by decide +kernel))
theorem tb1444 : (Cond.code ({ cls := "DiaryHouseModel", name := "feed", desc := "(IIIII)I" } : MethodName) prog_14_method_20_code (6 : Nat) (Option.some FieldType.int)) ∈ lw_tbl := tb_r (List.mem_of_getElem? (i := 1444) (by decide +kernel))
theorem tb1445 : (Cond.methodLink "DiaryHouseModel" (181 : Nat) ({ cls := "DiaryHouseModel", name := "bytesIn", desc := "(I)I" } : MethodName)) ∈ lw_tbl := tb_r (List.mem_of_getElem? (i := 1445) (by decide +kernel))
theorem tb1446 : (Cond.static ({ cls := "DiaryHouseModel", name := "bytesIn", desc := "(I)I" } : MethodName)) ∈ lw_tbl := tb_r (List.mem_of_getElem? (i := 1446) (by decide +kernel))
theorem tb1447 : (Cond.code ({ cls := "DiaryHouseModel", name := "bytesIn", desc := "(I)I" } : MethodName) prog_14_method_18_code (3 : Nat) (Option.some FieldType.int)) ∈ lw_tbl := tb_r (List.mem_of_getElem? (i := 1447) (by decide +kernel))
theorem tb1448 : (Cond.methodLink "DiaryHouseModel" (185 : Nat) ({ cls := "DiaryHouseModel", name := "put", desc := "(I)V" } : MethodName)) ∈ lw_tbl := tb_r (List.mem_of_getElem? (i := 1448) (by decide +kernel))
theorem tb1450 : (Cond.instanceMethod ({ cls := "DiaryHouseModel", name := "put", desc := "(I)V" } : MethodName)) ∈ lw_tbl := tb_r (List.mem_of_getElem? (i := 1450) (by decide +kernel))
theorem tb1451 : (Cond.code ({ cls := "DiaryHouseModel", name := "put", desc := "(I)V" } : MethodName) prog_14_method_19_code (3 : Nat) (Option.none : Option FieldType)) ∈ lw_tbl := tb_r (List.mem_of_getElem? (i := 1451) (by decide +kernel))
theorem tb1452 : (Cond.methodLink "DiaryHouseLaw" (62 : Nat) ({ cls := "DiaryHouseModel", name := "end", desc := "(I)Z" } : MethodName)) ∈ lw_tbl := tb_r (List.mem_of_getElem? (i := 1452) (by decide +kernel))
theorem tb1453 : (Cond.instanceMethod ({ cls := "DiaryHouseModel", name := "end", desc := "(I)Z" } : MethodName)) ∈ lw_tbl := tb_r (List.mem_of_getElem? (i := 1453) (by decide +kernel))
theorem tb1454 : (Cond.selects "DiaryHouseModel" ({ cls := "DiaryHouseModel", name := "end", desc := "(I)Z" } : MethodName) ({ cls := "DiaryHouseModel", name := "end", desc := "(I)Z" } : MethodName)) ∈ lw_tbl := tb_r (List.mem_of_getElem? (i := 1454) (by decide +kernel))
theorem tb1455 : (Cond.code ({ cls := "DiaryHouseModel", name := "end", desc := "(I)Z" } : MethodName) prog_14_method_21_code (2 : Nat) (Option.some FieldType.boolean)) ∈ lw_tbl := tb_r (List.mem_of_getElem? (i := 1455) (by decide +kernel))
theorem tb1456 : (Cond.methodLink "DiaryHouseLaw" (66 : Nat) ({ cls := "DiaryHouseModel", name := "fault", desc := "()I" } : MethodName)) ∈ lw_tbl := tb_r (List.mem_of_getElem? (i := 1456) (by decide +kernel))
theorem tb1457 : (Cond.instanceMethod ({ cls := "DiaryHouseModel", name := "fault", desc := "()I" } : MethodName)) ∈ lw_tbl := tb_r (List.mem_of_getElem? (i := 1457) (by decide +kernel))
theorem tb1458 : (Cond.selects "DiaryHouseModel" ({ cls := "DiaryHouseModel", name := "fault", desc := "()I" } : MethodName) ({ cls := "DiaryHouseModel", name := "fault", desc := "()I" } : MethodName)) ∈ lw_tbl := tb_r (List.mem_of_getElem? (i := 1458) (by decide +kernel))
theorem tb1459 : (Cond.code ({ cls := "DiaryHouseModel", name := "fault", desc := "()I" } : MethodName) prog_14_method_38_code (1 : Nat) (Option.some FieldType.int)) ∈ lw_tbl := tb_r (List.mem_of_getElem? (i := 1459) (by decide +kernel))
theorem tb1460 : (Cond.methodLink "DiaryHouseModel" (285 : Nat) ({ cls := "DiaryHouseModel", name := "goThrough", desc := "([BIII)V" } : MethodName)) ∈ lw_tbl := tb_r (List.mem_of_getElem? (i := 1460) (by decide +kernel))
theorem tb1462 : (Cond.instanceMethod ({ cls := "DiaryHouseModel", name := "goThrough", desc := "([BIII)V" } : MethodName)) ∈ lw_tbl := tb_r (List.mem_of_getElem? (i := 1462) (by decide +kernel))
theorem tb1463 : (Cond.code ({ cls := "DiaryHouseModel", name := "goThrough", desc := "([BIII)V" } : MethodName) prog_14_method_37_code (5 : Nat) (Option.none : Option FieldType)) ∈ lw_tbl := tb_r (List.mem_of_getElem? (i := 1463) (by decide +kernel))
theorem tb1464 : (Cond.methodLink "DiaryHouseModel" (282 : Nat) ({ cls := "DiaryHouseModel", name := "clause", desc := "()V" } : MethodName)) ∈ lw_tbl := tb_r (List.mem_of_getElem? (i := 1464) (by decide +kernel))
theorem tb1466 : (Cond.instanceMethod ({ cls := "DiaryHouseModel", name := "clause", desc := "()V" } : MethodName)) ∈ lw_tbl := tb_r (List.mem_of_getElem? (i := 1466) (by decide +kernel))
theorem tb1467 : (Cond.code ({ cls := "DiaryHouseModel", name := "clause", desc := "()V" } : MethodName) prog_14_method_36_code (5 : Nat) (Option.none : Option FieldType)) ∈ lw_tbl := tb_r (List.mem_of_getElem? (i := 1467) (by decide +kernel))
theorem tb1468 : (Cond.methodLink "DiaryHouseModel" (208 : Nat) ({ cls := "DiaryHouseModel", name := "look", desc := "()I" } : MethodName)) ∈ lw_tbl := tb_r (List.mem_of_getElem? (i := 1468) (by decide +kernel))
theorem tb1470 : (Cond.instanceMethod ({ cls := "DiaryHouseModel", name := "look", desc := "()I" } : MethodName)) ∈ lw_tbl := tb_r (List.mem_of_getElem? (i := 1470) (by decide +kernel))
theorem tb1471 : (Cond.code ({ cls := "DiaryHouseModel", name := "look", desc := "()I" } : MethodName) prog_14_method_22_code (1 : Nat) (Option.some FieldType.int)) ∈ lw_tbl := tb_r (List.mem_of_getElem? (i := 1471) (by decide +kernel))
theorem tb1473 : (Cond.methodLink "DiaryHouseModel" (227 : Nat) ({ cls := "java/lang/String", name := "indexOf", desc := "(I)I" } : MethodName)) ∈ lw_tbl := tb_r (List.mem_of_getElem? (i := 1473) (by decide +kernel))
theorem tb1474 : (Cond.methodLink "DiaryHouseModel" (204 : Nat) ({ cls := "DiaryHouseModel", name := "fails", desc := "()Z" } : MethodName)) ∈ lw_tbl := tb_r (List.mem_of_getElem? (i := 1474) (by decide +kernel))
theorem tb1476 : (Cond.instanceMethod ({ cls := "DiaryHouseModel", name := "fails", desc := "()Z" } : MethodName)) ∈ lw_tbl := tb_r (List.mem_of_getElem? (i := 1476) (by decide +kernel))
theorem tb1477 : (Cond.code ({ cls := "DiaryHouseModel", name := "fails", desc := "()Z" } : MethodName) prog_14_method_23_code (1 : Nat) (Option.some FieldType.boolean)) ∈ lw_tbl := tb_r (List.mem_of_getElem? (i := 1477) (by decide +kernel))
theorem tb1478 : (Cond.methodLink "DiaryHouseModel" (238 : Nat) ({ cls := "DiaryHouseModel", name := "takes", desc := "(I)Z" } : MethodName)) ∈ lw_tbl := tb_r (List.mem_of_getElem? (i := 1478) (by decide +kernel))
theorem tb1480 : (Cond.instanceMethod ({ cls := "DiaryHouseModel", name := "takes", desc := "(I)Z" } : MethodName)) ∈ lw_tbl := tb_r (List.mem_of_getElem? (i := 1480) (by decide +kernel))
theorem tb1481 : (Cond.code ({ cls := "DiaryHouseModel", name := "takes", desc := "(I)Z" } : MethodName) prog_14_method_25_code (2 : Nat) (Option.some FieldType.boolean)) ∈ lw_tbl := tb_r (List.mem_of_getElem? (i := 1481) (by decide +kernel))
theorem tb1482 : (Cond.methodLink "DiaryHouseModel" (260 : Nat) ({ cls := "DiaryHouseModel", name := "condition", desc := "(ZI)Z" } : MethodName)) ∈ lw_tbl := tb_r (List.mem_of_getElem? (i := 1482) (by decide +kernel))
theorem tb1484 : (Cond.instanceMethod ({ cls := "DiaryHouseModel", name := "condition", desc := "(ZI)Z" } : MethodName)) ∈ lw_tbl := tb_r (List.mem_of_getElem? (i := 1484) (by decide +kernel))
theorem tb1485 : (Cond.code ({ cls := "DiaryHouseModel", name := "condition", desc := "(ZI)Z" } : MethodName) prog_14_method_35_code (5 : Nat) (Option.some FieldType.boolean)) ∈ lw_tbl := tb_r (List.mem_of_getElem? (i := 1485) (by decide +kernel))
theorem tb1486 : (Cond.methodLink "DiaryHouseModel" (267 : Nat) ({ cls := "DiaryHouseModel", name := "part", desc := "(ZI)Z" } : MethodName)) ∈ lw_tbl := tb_r (List.mem_of_getElem? (i := 1486) (by decide +kernel))
theorem tb1488 : (Cond.instanceMethod ({ cls := "DiaryHouseModel", name := "part", desc := "(ZI)Z" } : MethodName)) ∈ lw_tbl := tb_r (List.mem_of_getElem? (i := 1488) (by decide +kernel))
theorem tb1489 : (Cond.code ({ cls := "DiaryHouseModel", name := "part", desc := "(ZI)Z" } : MethodName) prog_14_method_34_code (5 : Nat) (Option.some FieldType.boolean)) ∈ lw_tbl := tb_r (List.mem_of_getElem? (i := 1489) (by decide +kernel))
theorem tb1490 : (Cond.methodLink "DiaryHouseModel" (264 : Nat) ({ cls := "DiaryHouseModel", name := "compares", desc := "(ZI)Z" } : MethodName)) ∈ lw_tbl := tb_r (List.mem_of_getElem? (i := 1490) (by decide +kernel))
theorem tb1492 : (Cond.instanceMethod ({ cls := "DiaryHouseModel", name := "compares", desc := "(ZI)Z" } : MethodName)) ∈ lw_tbl := tb_r (List.mem_of_getElem? (i := 1492) (by decide +kernel))
theorem tb1493 : (Cond.code ({ cls := "DiaryHouseModel", name := "compares", desc := "(ZI)Z" } : MethodName) prog_14_method_32_code (6 : Nat) (Option.some FieldType.boolean)) ∈ lw_tbl := tb_r (List.mem_of_getElem? (i := 1493) (by decide +kernel))
theorem tb1494 : (Cond.methodLink "DiaryHouseModel" (235 : Nat) ({ cls := "DiaryHouseModel", name := "sum", desc := "()I" } : MethodName)) ∈ lw_tbl := tb_r (List.mem_of_getElem? (i := 1494) (by decide +kernel))
theorem tb1496 : (Cond.instanceMethod ({ cls := "DiaryHouseModel", name := "sum", desc := "()I" } : MethodName)) ∈ lw_tbl := tb_r (List.mem_of_getElem? (i := 1496) (by decide +kernel))
theorem tb1497 : (Cond.code ({ cls := "DiaryHouseModel", name := "sum", desc := "()I" } : MethodName) prog_14_method_30_code (5 : Nat) (Option.some FieldType.int)) ∈ lw_tbl := tb_r (List.mem_of_getElem? (i := 1497) (by decide +kernel))
theorem tb1498 : (Cond.methodLink "DiaryHouseModel" (251 : Nat) ({ cls := "DiaryHouseModel", name := "term", desc := "()I" } : MethodName)) ∈ lw_tbl := tb_r (List.mem_of_getElem? (i := 1498) (by decide +kernel))
theorem tb1500 : (Cond.instanceMethod ({ cls := "DiaryHouseModel", name := "term", desc := "()I" } : MethodName)) ∈ lw_tbl := tb_r (List.mem_of_getElem? (i := 1500) (by decide +kernel))
theorem tb1501 : (Cond.code ({ cls := "DiaryHouseModel", name := "term", desc := "()I" } : MethodName) prog_14_method_29_code (5 : Nat) (Option.some FieldType.int)) ∈ lw_tbl := tb_r (List.mem_of_getElem? (i := 1501) (by decide +kernel))
theorem tb1502 : (Cond.methodLink "DiaryHouseModel" (244 : Nat) ({ cls := "DiaryHouseModel", name := "atom", desc := "()I" } : MethodName)) ∈ lw_tbl := tb_r (List.mem_of_getElem? (i := 1502) (by decide +kernel))
theorem tb1504 : (Cond.instanceMethod ({ cls := "DiaryHouseModel", name := "atom", desc := "()I" } : MethodName)) ∈ lw_tbl := tb_r (List.mem_of_getElem? (i := 1504) (by decide +kernel))
theorem tb1505 : (Cond.code ({ cls := "DiaryHouseModel", name := "atom", desc := "()I" } : MethodName) prog_14_method_28_code (4 : Nat) (Option.some FieldType.int)) ∈ lw_tbl := tb_r (List.mem_of_getElem? (i := 1505) (by decide +kernel))
theorem tb1507 : (Cond.methodLink "DiaryHouseModel" (232 : Nat) ({ cls := "DiaryHouseModel", name := "goesIn", desc := "()Z" } : MethodName)) ∈ lw_tbl := tb_r (List.mem_of_getElem? (i := 1507) (by decide +kernel))
theorem tb1509 : (Cond.instanceMethod ({ cls := "DiaryHouseModel", name := "goesIn", desc := "()Z" } : MethodName)) ∈ lw_tbl := tb_r (List.mem_of_getElem? (i := 1509) (by decide +kernel))
theorem tb1510 : (Cond.code ({ cls := "DiaryHouseModel", name := "goesIn", desc := "()Z" } : MethodName) prog_14_method_24_code (1 : Nat) (Option.some FieldType.boolean)) ∈ lw_tbl := tb_r (List.mem_of_getElem? (i := 1510) (by decide +kernel))
theorem tb1511 : (Cond.methodLink "DiaryHouseModel" (241 : Nat) ({ cls := "DiaryHouseModel", name := "isDigit", desc := "()Z" } : MethodName)) ∈ lw_tbl := tb_r (List.mem_of_getElem? (i := 1511) (by decide +kernel))
theorem tb1513 : (Cond.instanceMethod ({ cls := "DiaryHouseModel", name := "isDigit", desc := "()Z" } : MethodName)) ∈ lw_tbl := tb_r (List.mem_of_getElem? (i := 1513) (by decide +kernel))
theorem tb1514 : (Cond.code ({ cls := "DiaryHouseModel", name := "isDigit", desc := "()Z" } : MethodName) prog_14_method_26_code (1 : Nat) (Option.some FieldType.boolean)) ∈ lw_tbl := tb_r (List.mem_of_getElem? (i := 1514) (by decide +kernel))
theorem tb1515 : (Cond.methodLink "DiaryHouseModel" (247 : Nat) ({ cls := "DiaryHouseModel", name := "bound", desc := "(J)I" } : MethodName)) ∈ lw_tbl := tb_r (List.mem_of_getElem? (i := 1515) (by decide +kernel))
theorem tb1516 : (Cond.static ({ cls := "DiaryHouseModel", name := "bound", desc := "(J)I" } : MethodName)) ∈ lw_tbl := tb_r (List.mem_of_getElem? (i := 1516) (by decide +kernel))
theorem tb1517 : (Cond.code ({ cls := "DiaryHouseModel", name := "bound", desc := "(J)I" } : MethodName) prog_14_method_27_code (2 : Nat) (Option.some FieldType.int)) ∈ lw_tbl := tb_r (List.mem_of_getElem? (i := 1517) (by decide +kernel))
theorem tb1518 : (Cond.constantLong "DiaryHouseModel" (212 : Nat) (-1000000 : Int64)) ∈ lw_tbl := tb_r (List.mem_of_getElem? (i := 1518) (by decide +kernel))
theorem tb1519 : (Cond.constantLong "DiaryHouseModel" (214 : Nat) (1000000 : Int64)) ∈ lw_tbl := tb_r (List.mem_of_getElem? (i := 1519) (by decide +kernel))
theorem tb1520 : (Cond.methodLink "DiaryHouseModel" (216 : Nat) ({ cls := "java/lang/Math", name := "min", desc := "(JJ)J" } : MethodName)) ∈ lw_tbl := tb_r (List.mem_of_getElem? (i := 1520) (by decide +kernel))
theorem tb1521 : (Cond.methodLink "DiaryHouseModel" (222 : Nat) ({ cls := "java/lang/Math", name := "max", desc := "(JJ)J" } : MethodName)) ∈ lw_tbl := tb_r (List.mem_of_getElem? (i := 1521) (by decide +kernel))
theorem tb1522 : (Cond.methodLink "DiaryHouseModel" (254 : Nat) ({ cls := "DiaryHouseModel", name := "isSign", desc := "(I)Z" } : MethodName)) ∈ lw_tbl := tb_r (List.mem_of_getElem? (i := 1522) (by decide +kernel))
theorem tb1523 : (Cond.static ({ cls := "DiaryHouseModel", name := "isSign", desc := "(I)Z" } : MethodName)) ∈ lw_tbl := tb_r (List.mem_of_getElem? (i := 1523) (by decide +kernel))
theorem tb1524 : (Cond.code ({ cls := "DiaryHouseModel", name := "isSign", desc := "(I)Z" } : MethodName) prog_14_method_31_code (1 : Nat) (Option.some FieldType.boolean)) ∈ lw_tbl := tb_r (List.mem_of_getElem? (i := 1524) (by decide +kernel))
theorem tb1525 : (Cond.methodLink "DiaryHouseModel" (257 : Nat) ({ cls := "DiaryHouseModel", name := "unit", desc := "()Z" } : MethodName)) ∈ lw_tbl := tb_r (List.mem_of_getElem? (i := 1525) (by decide +kernel))
theorem tb1527 : (Cond.instanceMethod ({ cls := "DiaryHouseModel", name := "unit", desc := "()Z" } : MethodName)) ∈ lw_tbl := tb_r (List.mem_of_getElem? (i := 1527) (by decide +kernel))
theorem tb1528 : (Cond.code ({ cls := "DiaryHouseModel", name := "unit", desc := "()Z" } : MethodName) prog_14_method_33_code (3 : Nat) (Option.some FieldType.boolean)) ∈ lw_tbl := tb_r (List.mem_of_getElem? (i := 1528) (by decide +kernel))
theorem tb1529 : (Cond.methodLink "DiaryHouseLaw" (70 : Nat) ({ cls := "DiaryHouseModel", name := "rule", desc := "(I)I" } : MethodName)) ∈ lw_tbl := tb_r (List.mem_of_getElem? (i := 1529) (by decide +kernel))
theorem tb1530 : (Cond.instanceMethod ({ cls := "DiaryHouseModel", name := "rule", desc := "(I)I" } : MethodName)) ∈ lw_tbl := tb_r (List.mem_of_getElem? (i := 1530) (by decide +kernel))
theorem tb1531 : (Cond.selects "DiaryHouseModel" ({ cls := "DiaryHouseModel", name := "rule", desc := "(I)I" } : MethodName) ({ cls := "DiaryHouseModel", name := "rule", desc := "(I)I" } : MethodName)) ∈ lw_tbl := tb_r (List.mem_of_getElem? (i := 1531) (by decide +kernel))
theorem tb1532 : (Cond.code ({ cls := "DiaryHouseModel", name := "rule", desc := "(I)I" } : MethodName) prog_14_method_39_code (3 : Nat) (Option.some FieldType.int)) ∈ lw_tbl := tb_r (List.mem_of_getElem? (i := 1532) (by decide +kernel))
theorem tb1533 : (Cond.methodLink "DiaryHouseLaw" (74 : Nat) ({ cls := "DiaryHouseModel", name := "force", desc := "(II)I" } : MethodName)) ∈ lw_tbl := tb_r (List.mem_of_getElem? (i := 1533) (by decide +kernel))
theorem tb1534 : (Cond.instanceMethod ({ cls := "DiaryHouseModel", name := "force", desc := "(II)I" } : MethodName)) ∈ lw_tbl := tb_r (List.mem_of_getElem? (i := 1534) (by decide +kernel))
theorem tb1535 : (Cond.selects "DiaryHouseModel" ({ cls := "DiaryHouseModel", name := "force", desc := "(II)I" } : MethodName) ({ cls := "DiaryHouseModel", name := "force", desc := "(II)I" } : MethodName)) ∈ lw_tbl := tb_r (List.mem_of_getElem? (i := 1535) (by decide +kernel))
theorem tb1536 : (Cond.code ({ cls := "DiaryHouseModel", name := "force", desc := "(II)I" } : MethodName) prog_14_method_41_code (3 : Nat) (Option.some FieldType.int)) ∈ lw_tbl := tb_r (List.mem_of_getElem? (i := 1536) (by decide +kernel))
theorem tb1537 : (Cond.methodLink "DiaryHouseModel" (292 : Nat) ({ cls := "DiaryHouseModel", name := "ruleOn", desc := "(II)I" } : MethodName)) ∈ lw_tbl := tb_r (List.mem_of_getElem? (i := 1537) (by decide +kernel))
theorem tb1539 : (Cond.instanceMethod ({ cls := "DiaryHouseModel", name := "ruleOn", desc := "(II)I" } : MethodName)) ∈ lw_tbl := tb_r (List.mem_of_getElem? (i := 1539) (by decide +kernel))
theorem tb1540 : (Cond.code ({ cls := "DiaryHouseModel", name := "ruleOn", desc := "(II)I" } : MethodName) prog_14_method_40_code (5 : Nat) (Option.some FieldType.int)) ∈ lw_tbl := tb_r (List.mem_of_getElem? (i := 1540) (by decide +kernel))
theorem tb1541 : (Cond.methodLink "DiaryHouseLaw" (79 : Nat) ({ cls := "DiaryHouseModel", name := "asked", desc := "(IIII)I" } : MethodName)) ∈ lw_tbl := tb_r (List.mem_of_getElem? (i := 1541) (by decide +kernel))
theorem tb1542 : (Cond.instanceMethod ({ cls := "DiaryHouseModel", name := "asked", desc := "(IIII)I" } : MethodName)) ∈ lw_tbl := tb_r (List.mem_of_getElem? (i := 1542) (by decide +kernel))
theorem tb1543 : (Cond.selects "DiaryHouseModel" ({ cls := "DiaryHouseModel", name := "asked", desc := "(IIII)I" } : MethodName) ({ cls := "DiaryHouseModel", name := "asked", desc := "(IIII)I" } : MethodName)) ∈ lw_tbl := tb_r (List.mem_of_getElem? (i := 1543) (by decide +kernel))
theorem tb1544 : (Cond.code ({ cls := "DiaryHouseModel", name := "asked", desc := "(IIII)I" } : MethodName) prog_14_method_45_code (5 : Nat) (Option.some FieldType.int)) ∈ lw_tbl := tb_r (List.mem_of_getElem? (i := 1544) (by decide +kernel))
theorem tb1545 : (Cond.methodLink "DiaryHouseModel" (295 : Nat) ({ cls := "DiaryHouseModel", name := "noLetters", desc := "()V" } : MethodName)) ∈ lw_tbl := tb_r (List.mem_of_getElem? (i := 1545) (by decide +kernel))
theorem tb1547 : (Cond.instanceMethod ({ cls := "DiaryHouseModel", name := "noLetters", desc := "()V" } : MethodName)) ∈ lw_tbl := tb_r (List.mem_of_getElem? (i := 1547) (by decide +kernel))
theorem tb1548 : (Cond.code ({ cls := "DiaryHouseModel", name := "noLetters", desc := "()V" } : MethodName) prog_14_method_43_code (2 : Nat) (Option.none : Option FieldType)) ∈ lw_tbl := tb_r (List.mem_of_getElem? (i := 1548) (by decide +kernel))
theorem tb1549 : (Cond.methodLink "DiaryHouseModel" (298 : Nat) ({ cls := "DiaryHouseModel", name := "letPerson", desc := "(I)V" } : MethodName)) ∈ lw_tbl := tb_r (List.mem_of_getElem? (i := 1549) (by decide +kernel))
theorem tb1551 : (Cond.instanceMethod ({ cls := "DiaryHouseModel", name := "letPerson", desc := "(I)V" } : MethodName)) ∈ lw_tbl := tb_r (List.mem_of_getElem? (i := 1551) (by decide +kernel))
theorem tb1552 : (Cond.code ({ cls := "DiaryHouseModel", name := "letPerson", desc := "(I)V" } : MethodName) prog_14_method_44_code (2 : Nat) (Option.none : Option FieldType)) ∈ lw_tbl := tb_r (List.mem_of_getElem? (i := 1552) (by decide +kernel))
theorem tb1553 : (Cond.methodLink "DiaryHouseModel" (301 : Nat) ({ cls := "DiaryHouseModel", name := "worth", desc := "(III)I" } : MethodName)) ∈ lw_tbl := tb_r (List.mem_of_getElem? (i := 1553) (by decide +kernel))
theorem tb1555 : (Cond.instanceMethod ({ cls := "DiaryHouseModel", name := "worth", desc := "(III)I" } : MethodName)) ∈ lw_tbl := tb_r (List.mem_of_getElem? (i := 1555) (by decide +kernel))
theorem tb1556 : (Cond.code ({ cls := "DiaryHouseModel", name := "worth", desc := "(III)I" } : MethodName) prog_14_method_42_code (5 : Nat) (Option.some FieldType.int)) ∈ lw_tbl := tb_r (List.mem_of_getElem? (i := 1556) (by decide +kernel))
theorem tb1557 : (Cond.methodLink "DiaryHouseLaw" (83 : Nat) ({ cls := "DiaryHouseModel", name := "shown", desc := "(IIII)I" } : MethodName)) ∈ lw_tbl := tb_r (List.mem_of_getElem? (i := 1557) (by decide +kernel))
theorem tb1558 : (Cond.instanceMethod ({ cls := "DiaryHouseModel", name := "shown", desc := "(IIII)I" } : MethodName)) ∈ lw_tbl := tb_r (List.mem_of_getElem? (i := 1558) (by decide +kernel))
theorem tb1559 : (Cond.selects "DiaryHouseModel" ({ cls := "DiaryHouseModel", name := "shown", desc := "(IIII)I" } : MethodName) ({ cls := "DiaryHouseModel", name := "shown", desc := "(IIII)I" } : MethodName)) ∈ lw_tbl := tb_r (List.mem_of_getElem? (i := 1559) (by decide +kernel))
theorem tb1560 : (Cond.code ({ cls := "DiaryHouseModel", name := "shown", desc := "(IIII)I" } : MethodName) prog_14_method_47_code (5 : Nat) (Option.some FieldType.int)) ∈ lw_tbl := tb_r (List.mem_of_getElem? (i := 1560) (by decide +kernel))
theorem tb1561 : (Cond.methodLink "DiaryHouseModel" (305 : Nat) ({ cls := "DiaryHouseModel", name := "isLineBy", desc := "(II)Z" } : MethodName)) ∈ lw_tbl := tb_r (List.mem_of_getElem? (i := 1561) (by decide +kernel))
theorem tb1563 : (Cond.instanceMethod ({ cls := "DiaryHouseModel", name := "isLineBy", desc := "(II)Z" } : MethodName)) ∈ lw_tbl := tb_r (List.mem_of_getElem? (i := 1563) (by decide +kernel))
theorem tb1564 : (Cond.code ({ cls := "DiaryHouseModel", name := "isLineBy", desc := "(II)Z" } : MethodName) prog_14_method_10_code (3 : Nat) (Option.some FieldType.boolean)) ∈ lw_tbl := tb_r (List.mem_of_getElem? (i := 1564) (by decide +kernel))
theorem tb1565 : (Cond.methodLink "DiaryHouseModel" (309 : Nat) ({ cls := "DiaryHouseModel", name := "mayShow", desc := "(IIII)Z" } : MethodName)) ∈ lw_tbl := tb_r (List.mem_of_getElem? (i := 1565) (by decide +kernel))
theorem tb1567 : (Cond.instanceMethod ({ cls := "DiaryHouseModel", name := "mayShow", desc := "(IIII)Z" } : MethodName)) ∈ lw_tbl := tb_r (List.mem_of_getElem? (i := 1567) (by decide +kernel))
theorem tb1568 : (Cond.code ({ cls := "DiaryHouseModel", name := "mayShow", desc := "(IIII)Z" } : MethodName) prog_14_method_46_code (5 : Nat) (Option.some FieldType.boolean)) ∈ lw_tbl := tb_r (List.mem_of_getElem? (i := 1568) (by decide +kernel))
theorem tb1569 : (Cond.methodLink "DiaryHouseLaw" (87 : Nat) ({ cls := "DiaryHouseModel", name := "digest", desc := "(IIIII)I" } : MethodName)) ∈ lw_tbl := tb_r (List.mem_of_getElem? (i := 1569) (by decide +kernel))
theorem tb1570 : (Cond.instanceMethod ({ cls := "DiaryHouseModel", name := "digest", desc := "(IIIII)I" } : MethodName)) ∈ lw_tbl := tb_r (List.mem_of_getElem? (i := 1570) (by decide +kernel))
theorem tb1571 : (Cond.selects "DiaryHouseModel" ({ cls := "DiaryHouseModel", name := "digest", desc := "(IIIII)I" } : MethodName) ({ cls := "DiaryHouseModel", name := "digest", desc := "(IIIII)I" } : MethodName)) ∈ lw_tbl := tb_r (List.mem_of_getElem? (i := 1571) (by decide +kernel))
theorem tb1572 : (Cond.code ({ cls := "DiaryHouseModel", name := "digest", desc := "(IIIII)I" } : MethodName) prog_14_method_49_code (6 : Nat) (Option.some FieldType.int)) ∈ lw_tbl := tb_r (List.mem_of_getElem? (i := 1572) (by decide +kernel))
theorem tb1573 : (Cond.methodLink "DiaryHouseModel" (326 : Nat) ({ cls := "DiaryHouseModel", name := "digests", desc := "(IIII)Z" } : MethodName)) ∈ lw_tbl := tb_r (List.mem_of_getElem? (i := 1573) (by decide +kernel))
theorem tb1575 : (Cond.instanceMethod ({ cls := "DiaryHouseModel", name := "digests", desc := "(IIII)Z" } : MethodName)) ∈ lw_tbl := tb_r (List.mem_of_getElem? (i := 1575) (by decide +kernel))
theorem tb1576 : (Cond.code ({ cls := "DiaryHouseModel", name := "digests", desc := "(IIII)Z" } : MethodName) prog_14_method_48_code (9 : Nat) (Option.some FieldType.boolean)) ∈ lw_tbl := tb_r (List.mem_of_getElem? (i := 1576) (by decide +kernel))
theorem tb1577 : (Cond.methodLink "DiaryHouseModel" (313 : Nat) ({ cls := "java/lang/Math", name := "min", desc := "(II)I" } : MethodName)) ∈ lw_tbl := tb_r (List.mem_of_getElem? (i := 1577) (by decide +kernel))
theorem tb1578 : (Cond.methodLink "DiaryHouseModel" (315 : Nat) ({ cls := "java/lang/Math", name := "max", desc := "(II)I" } : MethodName)) ∈ lw_tbl := tb_r (List.mem_of_getElem? (i := 1578) (by decide +kernel))
theorem tb1579 : (Cond.methodLink "DiaryHouseModel" (323 : Nat) ({ cls := "java/lang/Math", name := "abs", desc := "(I)I" } : MethodName)) ∈ lw_tbl := tb_r (List.mem_of_getElem? (i := 1579) (by decide +kernel))
theorem tb1580 : (Cond.methodLink "DiaryHouseLaw" (91 : Nat) ({ cls := "DiaryHouseModel", name := "left", desc := "(IIII)I" } : MethodName)) ∈ lw_tbl := tb_r (List.mem_of_getElem? (i := 1580) (by decide +kernel))
theorem tb1581 : (Cond.instanceMethod ({ cls := "DiaryHouseModel", name := "left", desc := "(IIII)I" } : MethodName)) ∈ lw_tbl := tb_r (List.mem_of_getElem? (i := 1581) (by decide +kernel))
theorem tb1582 : (Cond.selects "DiaryHouseModel" ({ cls := "DiaryHouseModel", name := "left", desc := "(IIII)I" } : MethodName) ({ cls := "DiaryHouseModel", name := "left", desc := "(IIII)I" } : MethodName)) ∈ lw_tbl := tb_r (List.mem_of_getElem? (i := 1582) (by decide +kernel))
theorem tb1583 : (Cond.code ({ cls := "DiaryHouseModel", name := "left", desc := "(IIII)I" } : MethodName) prog_14_method_50_code (5 : Nat) (Option.some FieldType.int)) ∈ lw_tbl := tb_r (List.mem_of_getElem? (i := 1583) (by decide +kernel))
theorem tb1584 : (Cond.methodLink "DiaryHouseLaw" (96 : Nat) ({ cls := "DiaryHouseModel", name := "happen", desc := "(IIIZ)Z" } : MethodName)) ∈ lw_tbl := tb_r (List.mem_of_getElem? (i := 1584) (by decide +kernel))
theorem tb1585 : (Cond.instanceMethod ({ cls := "DiaryHouseModel", name := "happen", desc := "(IIIZ)Z" } : MethodName)) ∈ lw_tbl := tb_r (List.mem_of_getElem? (i := 1585) (by decide +kernel))
theorem tb1586 : (Cond.selects "DiaryHouseModel" ({ cls := "DiaryHouseModel", name := "happen", desc := "(IIIZ)Z" } : MethodName) ({ cls := "DiaryHouseModel", name := "happen", desc := "(IIIZ)Z" } : MethodName)) ∈ lw_tbl := tb_r (List.mem_of_getElem? (i := 1586) (by decide +kernel))
theorem tb1587 : (Cond.code ({ cls := "DiaryHouseModel", name := "happen", desc := "(IIIZ)Z" } : MethodName) prog_14_method_51_code (5 : Nat) (Option.some FieldType.boolean)) ∈ lw_tbl := tb_r (List.mem_of_getElem? (i := 1587) (by decide +kernel))
theorem tb1588 : (Cond.methodLink "DiaryHouseLaw" (100 : Nat) ({ cls := "DiaryHouseModel", name := "truth", desc := "(II)I" } : MethodName)) ∈ lw_tbl := tb_r (List.mem_of_getElem? (i := 1588) (by decide +kernel))
theorem tb1589 : (Cond.instanceMethod ({ cls := "DiaryHouseModel", name := "truth", desc := "(II)I" } : MethodName)) ∈ lw_tbl := tb_r (List.mem_of_getElem? (i := 1589) (by decide +kernel))
theorem tb1590 : (Cond.selects "DiaryHouseModel" ({ cls := "DiaryHouseModel", name := "truth", desc := "(II)I" } : MethodName) ({ cls := "DiaryHouseModel", name := "truth", desc := "(II)I" } : MethodName)) ∈ lw_tbl := tb_r (List.mem_of_getElem? (i := 1590) (by decide +kernel))
theorem tb1591 : (Cond.code ({ cls := "DiaryHouseModel", name := "truth", desc := "(II)I" } : MethodName) prog_14_method_52_code (5 : Nat) (Option.some FieldType.int)) ∈ lw_tbl := tb_r (List.mem_of_getElem? (i := 1591) (by decide +kernel))
theorem tb1592 : (Cond.methodLink "DiaryHouseLaw" (104 : Nat) ({ cls := "DiaryHouseModel", name := "way", desc := "(IIII)I" } : MethodName)) ∈ lw_tbl := tb_r (List.mem_of_getElem? (i := 1592) (by decide +kernel))
theorem tb1593 : (Cond.instanceMethod ({ cls := "DiaryHouseModel", name := "way", desc := "(IIII)I" } : MethodName)) ∈ lw_tbl := tb_r (List.mem_of_getElem? (i := 1593) (by decide +kernel))
theorem tb1594 : (Cond.selects "DiaryHouseModel" ({ cls := "DiaryHouseModel", name := "way", desc := "(IIII)I" } : MethodName) ({ cls := "DiaryHouseModel", name := "way", desc := "(IIII)I" } : MethodName)) ∈ lw_tbl := tb_r (List.mem_of_getElem? (i := 1594) (by decide +kernel))
theorem tb1595 : (Cond.code ({ cls := "DiaryHouseModel", name := "way", desc := "(IIII)I" } : MethodName) prog_14_method_54_code (11 : Nat) (Option.some FieldType.int)) ∈ lw_tbl := tb_r (List.mem_of_getElem? (i := 1595) (by decide +kernel))
theorem tb1596 : (Cond.methodLink "DiaryHouseModel" (332 : Nat) ({ cls := "DiaryHouseModel", name := "wordOf", desc := "(III)I" } : MethodName)) ∈ lw_tbl := tb_r (List.mem_of_getElem? (i := 1596) (by decide +kernel))
theorem tb1598 : (Cond.instanceMethod ({ cls := "DiaryHouseModel", name := "wordOf", desc := "(III)I" } : MethodName)) ∈ lw_tbl := tb_r (List.mem_of_getElem? (i := 1598) (by decide +kernel))
theorem tb1599 : (Cond.code ({ cls := "DiaryHouseModel", name := "wordOf", desc := "(III)I" } : MethodName) prog_14_method_53_code (6 : Nat) (Option.some FieldType.int)) ∈ lw_tbl := tb_r (List.mem_of_getElem? (i := 1599) (by decide +kernel))
theorem tb1600 : (Cond.methodLink "DiaryHouseLaw" (108 : Nat) ({ cls := "DiaryHouseModel", name := "bearers", desc := "(II)I" } : MethodName)) ∈ lw_tbl := tb_r (List.mem_of_getElem? (i := 1600) (by decide +kernel))
theorem tb1601 : (Cond.instanceMethod ({ cls := "DiaryHouseModel", name := "bearers", desc := "(II)I" } : MethodName)) ∈ lw_tbl := tb_r (List.mem_of_getElem? (i := 1601) (by decide +kernel))
theorem tb1602 : (Cond.selects "DiaryHouseModel" ({ cls := "DiaryHouseModel", name := "bearers", desc := "(II)I" } : MethodName) ({ cls := "DiaryHouseModel", name := "bearers", desc := "(II)I" } : MethodName)) ∈ lw_tbl := tb_r (List.mem_of_getElem? (i := 1602) (by decide +kernel))
theorem tb1603 : (Cond.code ({ cls := "DiaryHouseModel", name := "bearers", desc := "(II)I" } : MethodName) prog_14_method_55_code (5 : Nat) (Option.some FieldType.int)) ∈ lw_tbl := tb_r (List.mem_of_getElem? (i := 1603) (by decide +kernel))
theorem tb1604 : (Cond.methodLink "DiaryHouseLaw" (113 : Nat) ({ cls := "DiaryHouseModel", name := "mark", desc := "(III)Z" } : MethodName)) ∈ lw_tbl := tb_r (List.mem_of_getElem? (i := 1604) (by decide +kernel))
theorem tb1605 : (Cond.instanceMethod ({ cls := "DiaryHouseModel", name := "mark", desc := "(III)Z" } : MethodName)) ∈ lw_tbl := tb_r (List.mem_of_getElem? (i := 1605) (by decide +kernel))
theorem tb1606 : (Cond.selects "DiaryHouseModel" ({ cls := "DiaryHouseModel", name := "mark", desc := "(III)Z" } : MethodName) ({ cls := "DiaryHouseModel", name := "mark", desc := "(III)Z" } : MethodName)) ∈ lw_tbl := tb_r (List.mem_of_getElem? (i := 1606) (by decide +kernel))
theorem tb1607 : (Cond.code ({ cls := "DiaryHouseModel", name := "mark", desc := "(III)Z" } : MethodName) prog_14_method_57_code (4 : Nat) (Option.some FieldType.boolean)) ∈ lw_tbl := tb_r (List.mem_of_getElem? (i := 1607) (by decide +kernel))
theorem tb1608 : (Cond.methodLink "DiaryHouseModel" (338 : Nat) ({ cls := "DiaryHouseModel", name := "isReader", desc := "(I)Z" } : MethodName)) ∈ lw_tbl := tb_r (List.mem_of_getElem? (i := 1608) (by decide +kernel))
theorem tb1609 : (Cond.static ({ cls := "DiaryHouseModel", name := "isReader", desc := "(I)Z" } : MethodName)) ∈ lw_tbl := tb_r (List.mem_of_getElem? (i := 1609) (by decide +kernel))
theorem tb1610 : (Cond.code ({ cls := "DiaryHouseModel", name := "isReader", desc := "(I)Z" } : MethodName) prog_14_method_56_code (1 : Nat) (Option.some FieldType.boolean)) ∈ lw_tbl := tb_r (List.mem_of_getElem? (i := 1610) (by decide +kernel))
theorem tb1611 : (Cond.methodLink "DiaryHouseLaw" (117 : Nat) ({ cls := "DiaryHouseModel", name := "marked", desc := "(III)I" } : MethodName)) ∈ lw_tbl := tb_r (List.mem_of_getElem? (i := 1611) (by decide +kernel))
theorem tb1612 : (Cond.instanceMethod ({ cls := "DiaryHouseModel", name := "marked", desc := "(III)I" } : MethodName)) ∈ lw_tbl := tb_r (List.mem_of_getElem? (i := 1612) (by decide +kernel))
theorem tb1613 : (Cond.selects "DiaryHouseModel" ({ cls := "DiaryHouseModel", name := "marked", desc := "(III)I" } : MethodName) ({ cls := "DiaryHouseModel", name := "marked", desc := "(III)I" } : MethodName)) ∈ lw_tbl := tb_r (List.mem_of_getElem? (i := 1613) (by decide +kernel))
theorem tb1614 : (Cond.code ({ cls := "DiaryHouseModel", name := "marked", desc := "(III)I" } : MethodName) prog_14_method_59_code (4 : Nat) (Option.some FieldType.int)) ∈ lw_tbl := tb_r (List.mem_of_getElem? (i := 1614) (by decide +kernel))
theorem tb1615 : (Cond.methodLink "DiaryHouseModel" (341 : Nat) ({ cls := "DiaryHouseModel", name := "markOf", desc := "(III)I" } : MethodName)) ∈ lw_tbl := tb_r (List.mem_of_getElem? (i := 1615) (by decide +kernel))
theorem tb1617 : (Cond.instanceMethod ({ cls := "DiaryHouseModel", name := "markOf", desc := "(III)I" } : MethodName)) ∈ lw_tbl := tb_r (List.mem_of_getElem? (i := 1617) (by decide +kernel))
theorem tb1618 : (Cond.code ({ cls := "DiaryHouseModel", name := "markOf", desc := "(III)I" } : MethodName) prog_14_method_58_code (6 : Nat) (Option.some FieldType.int)) ∈ lw_tbl := tb_r (List.mem_of_getElem? (i := 1618) (by decide +kernel))
theorem tb1619 : (Cond.methodLink "DiaryHouseLaw" (121 : Nat) ({ cls := "DiaryHouseModel", name := "agree", desc := "(IIII)I" } : MethodName)) ∈ lw_tbl := tb_r (List.mem_of_getElem? (i := 1619) (by decide +kernel))
theorem tb1620 : (Cond.instanceMethod ({ cls := "DiaryHouseModel", name := "agree", desc := "(IIII)I" } : MethodName)) ∈ lw_tbl := tb_r (List.mem_of_getElem? (i := 1620) (by decide +kernel))
theorem tb1621 : (Cond.selects "DiaryHouseModel" ({ cls := "DiaryHouseModel", name := "agree", desc := "(IIII)I" } : MethodName) ({ cls := "DiaryHouseModel", name := "agree", desc := "(IIII)I" } : MethodName)) ∈ lw_tbl := tb_r (List.mem_of_getElem? (i := 1621) (by decide +kernel))
theorem tb1622 : (Cond.code ({ cls := "DiaryHouseModel", name := "agree", desc := "(IIII)I" } : MethodName) prog_14_method_60_code (9 : Nat) (Option.some FieldType.int)) ∈ lw_tbl := tb_r (List.mem_of_getElem? (i := 1622) (by decide +kernel))
theorem tb1623 : (Cond.methodLink "DiaryHouseLaw" (125 : Nat) ({ cls := "DiaryHouseModel", name := "habit", desc := "(II)I" } : MethodName)) ∈ lw_tbl := tb_r (List.mem_of_getElem? (i := 1623) (by decide +kernel))
theorem tb1624 : (Cond.instanceMethod ({ cls := "DiaryHouseModel", name := "habit", desc := "(II)I" } : MethodName)) ∈ lw_tbl := tb_r (List.mem_of_getElem? (i := 1624) (by decide +kernel))
theorem tb1625 : (Cond.selects "DiaryHouseModel" ({ cls := "DiaryHouseModel", name := "habit", desc := "(II)I" } : MethodName) ({ cls := "DiaryHouseModel", name := "habit", desc := "(II)I" } : MethodName)) ∈ lw_tbl := tb_r (List.mem_of_getElem? (i := 1625) (by decide +kernel))
theorem tb1626 : (Cond.code ({ cls := "DiaryHouseModel", name := "habit", desc := "(II)I" } : MethodName) prog_14_method_61_code (9 : Nat) (Option.some FieldType.int)) ∈ lw_tbl := tb_r (List.mem_of_getElem? (i := 1626) (by decide +kernel))
theorem tb1627 : (Cond.constant "DiaryHouseModel" (344 : Nat) (-1000000 : Int32)) ∈ lw_tbl := tb_r (List.mem_of_getElem? (i := 1627) (by decide +kernel))
theorem tb1628 : (Cond.methodLink "DiaryHouseLaw" (129 : Nat) ({ cls := "DiaryHouseModel", name := "held", desc := "(II)I" } : MethodName)) ∈ lw_tbl := tb_r (List.mem_of_getElem? (i := 1628) (by decide +kernel))
theorem tb1629 : (Cond.instanceMethod ({ cls := "DiaryHouseModel", name := "held", desc := "(II)I" } : MethodName)) ∈ lw_tbl := tb_r (List.mem_of_getElem? (i := 1629) (by decide +kernel))
theorem tb1630 : (Cond.selects "DiaryHouseModel" ({ cls := "DiaryHouseModel", name := "held", desc := "(II)I" } : MethodName) ({ cls := "DiaryHouseModel", name := "held", desc := "(II)I" } : MethodName)) ∈ lw_tbl := tb_r (List.mem_of_getElem? (i := 1630) (by decide +kernel))
theorem tb1631 : (Cond.code ({ cls := "DiaryHouseModel", name := "held", desc := "(II)I" } : MethodName) prog_14_method_62_code (8 : Nat) (Option.some FieldType.int)) ∈ lw_tbl := tb_r (List.mem_of_getElem? (i := 1631) (by decide +kernel))
theorem tb1632 : (Cond.methodLink "DiaryHouseLaw" (133 : Nat) ({ cls := "DiaryHouseModel", name := "land", desc := "(III)Z" } : MethodName)) ∈ lw_tbl := tb_r (List.mem_of_getElem? (i := 1632) (by decide +kernel))
theorem tb1633 : (Cond.instanceMethod ({ cls := "DiaryHouseModel", name := "land", desc := "(III)Z" } : MethodName)) ∈ lw_tbl := tb_r (List.mem_of_getElem? (i := 1633) (by decide +kernel))
theorem tb1634 : (Cond.selects "DiaryHouseModel" ({ cls := "DiaryHouseModel", name := "land", desc := "(III)Z" } : MethodName) ({ cls := "DiaryHouseModel", name := "land", desc := "(III)Z" } : MethodName)) ∈ lw_tbl := tb_r (List.mem_of_getElem? (i := 1634) (by decide +kernel))
theorem tb1635 : (Cond.code ({ cls := "DiaryHouseModel", name := "land", desc := "(III)Z" } : MethodName) prog_14_method_63_code (4 : Nat) (Option.some FieldType.boolean)) ∈ lw_tbl := tb_r (List.mem_of_getElem? (i := 1635) (by decide +kernel))
theorem tb1636 : (Cond.methodLink "DiaryHouseLaw" (137 : Nat) ({ cls := "DiaryHouseModel", name := "span", desc := "(IIII)I" } : MethodName)) ∈ lw_tbl := tb_r (List.mem_of_getElem? (i := 1636) (by decide +kernel))
theorem tb1637 : (Cond.instanceMethod ({ cls := "DiaryHouseModel", name := "span", desc := "(IIII)I" } : MethodName)) ∈ lw_tbl := tb_r (List.mem_of_getElem? (i := 1637) (by decide +kernel))
theorem tb1638 : (Cond.selects "DiaryHouseModel" ({ cls := "DiaryHouseModel", name := "span", desc := "(IIII)I" } : MethodName) ({ cls := "DiaryHouseModel", name := "span", desc := "(IIII)I" } : MethodName)) ∈ lw_tbl := tb_r (List.mem_of_getElem? (i := 1638) (by decide +kernel))
theorem tb1639 : (Cond.code ({ cls := "DiaryHouseModel", name := "span", desc := "(IIII)I" } : MethodName) prog_14_method_65_code (15 : Nat) (Option.some FieldType.int)) ∈ lw_tbl := tb_r (List.mem_of_getElem? (i := 1639) (by decide +kernel))
theorem tb1640 : (Cond.methodLink "DiaryHouseModel" (345 : Nat) ({ cls := "DiaryHouseModel", name := "people", desc := "()I" } : MethodName)) ∈ lw_tbl := tb_r (List.mem_of_getElem? (i := 1640) (by decide +kernel))
theorem tb1642 : (Cond.instanceMethod ({ cls := "DiaryHouseModel", name := "people", desc := "()I" } : MethodName)) ∈ lw_tbl := tb_r (List.mem_of_getElem? (i := 1642) (by decide +kernel))
theorem tb1643 : (Cond.code ({ cls := "DiaryHouseModel", name := "people", desc := "()I" } : MethodName) prog_14_method_64_code (3 : Nat) (Option.some FieldType.int)) ∈ lw_tbl := tb_r (List.mem_of_getElem? (i := 1643) (by decide +kernel))
theorem tb1644 : (Cond.methodLink "DiaryHouseModel" (348 : Nat) ({ cls := "DiaryHouseModel", name := "stratum", desc := "(I)I" } : MethodName)) ∈ lw_tbl := tb_r (List.mem_of_getElem? (i := 1644) (by decide +kernel))
theorem tb1646 : (Cond.instanceMethod ({ cls := "DiaryHouseModel", name := "stratum", desc := "(I)I" } : MethodName)) ∈ lw_tbl := tb_r (List.mem_of_getElem? (i := 1646) (by decide +kernel))
theorem tb1647 : (Cond.code ({ cls := "DiaryHouseModel", name := "stratum", desc := "(I)I" } : MethodName) prog_14_method_12_code (2 : Nat) (Option.some FieldType.int)) ∈ lw_tbl := tb_r (List.mem_of_getElem? (i := 1647) (by decide +kernel))
theorem tb1648 : (Cond.constantLong "DiaryHouseModel" (351 : Nat) (1000 : Int64)) ∈ lw_tbl := tb_r (List.mem_of_getElem? (i := 1648) (by decide +kernel))
theorem tb1649 : (Cond.methodLink "DiaryHouseLaw" (141 : Nat) ({ cls := "DiaryHouseModel", name := "mood", desc := "(III)I" } : MethodName)) ∈ lw_tbl := tb_r (List.mem_of_getElem? (i := 1649) (by decide +kernel))
theorem tb1650 : (Cond.instanceMethod ({ cls := "DiaryHouseModel", name := "mood", desc := "(III)I" } : MethodName)) ∈ lw_tbl := tb_r (List.mem_of_getElem? (i := 1650) (by decide +kernel))
theorem tb1651 : (Cond.selects "DiaryHouseModel" ({ cls := "DiaryHouseModel", name := "mood", desc := "(III)I" } : MethodName) ({ cls := "DiaryHouseModel", name := "mood", desc := "(III)I" } : MethodName)) ∈ lw_tbl := tb_r (List.mem_of_getElem? (i := 1651) (by decide +kernel))
theorem tb1652 : (Cond.code ({ cls := "DiaryHouseModel", name := "mood", desc := "(III)I" } : MethodName) prog_14_method_66_code (7 : Nat) (Option.some FieldType.int)) ∈ lw_tbl := tb_r (List.mem_of_getElem? (i := 1652) (by decide +kernel))
theorem tb1653 : (Cond.methodLink "DiaryHouseLaw" (145 : Nat) ({ cls := "DiaryHouseModel", name := "turn", desc := "(IIII)I" } : MethodName)) ∈ lw_tbl := tb_r (List.mem_of_getElem? (i := 1653) (by decide +kernel))
theorem tb1654 : (Cond.instanceMethod ({ cls := "DiaryHouseModel", name := "turn", desc := "(IIII)I" } : MethodName)) ∈ lw_tbl := tb_r (List.mem_of_getElem? (i := 1654) (by decide +kernel))
theorem tb1655 : (Cond.selects "DiaryHouseModel" ({ cls := "DiaryHouseModel", name := "turn", desc := "(IIII)I" } : MethodName) ({ cls := "DiaryHouseModel", name := "turn", desc := "(IIII)I" } : MethodName)) ∈ lw_tbl := tb_r (List.mem_of_getElem? (i := 1655) (by decide +kernel))
theorem tb1656 : (Cond.code ({ cls := "DiaryHouseModel", name := "turn", desc := "(IIII)I" } : MethodName) prog_14_method_68_code (10 : Nat) (Option.some FieldType.int)) ∈ lw_tbl := tb_r (List.mem_of_getElem? (i := 1656) (by decide +kernel))
theorem tb1657 : (Cond.methodLink "DiaryHouseModel" (359 : Nat) ({ cls := "DiaryHouseModel", name := "apart", desc := "(II)J" } : MethodName)) ∈ lw_tbl := tb_r (List.mem_of_getElem? (i := 1657) (by decide +kernel))
theorem tb1659 : (Cond.instanceMethod ({ cls := "DiaryHouseModel", name := "apart", desc := "(II)J" } : MethodName)) ∈ lw_tbl := tb_r (List.mem_of_getElem? (i := 1659) (by decide +kernel))
theorem tb1660 : (Cond.code ({ cls := "DiaryHouseModel", name := "apart", desc := "(II)J" } : MethodName) prog_14_method_67_code (9 : Nat) (Option.some FieldType.long)) ∈ lw_tbl := tb_r (List.mem_of_getElem? (i := 1660) (by decide +kernel))
theorem tb1661 : (Cond.methodLink "DiaryHouseModel" (356 : Nat) ({ cls := "java/lang/Math", name := "abs", desc := "(J)J" } : MethodName)) ∈ lw_tbl := tb_r (List.mem_of_getElem? (i := 1661) (by decide +kernel))
theorem tb1662 : (Cond.methodLink "DiaryHouseLaw" (149 : Nat) ({ cls := "DiaryHouseModel", name := "last", desc := "(II)I" } : MethodName)) ∈ lw_tbl := tb_r (List.mem_of_getElem? (i := 1662) (by decide +kernel))
theorem tb1663 : (Cond.instanceMethod ({ cls := "DiaryHouseModel", name := "last", desc := "(II)I" } : MethodName)) ∈ lw_tbl := tb_r (List.mem_of_getElem? (i := 1663) (by decide +kernel))
theorem tb1664 : (Cond.selects "DiaryHouseModel" ({ cls := "DiaryHouseModel", name := "last", desc := "(II)I" } : MethodName) ({ cls := "DiaryHouseModel", name := "last", desc := "(II)I" } : MethodName)) ∈ lw_tbl := tb_r (List.mem_of_getElem? (i := 1664) (by decide +kernel))
theorem tb1665 : (Cond.code ({ cls := "DiaryHouseModel", name := "last", desc := "(II)I" } : MethodName) prog_14_method_70_code (3 : Nat) (Option.some FieldType.int)) ∈ lw_tbl := tb_r (List.mem_of_getElem? (i := 1665) (by decide +kernel))
theorem tb1666 : (Cond.methodLink "DiaryHouseModel" (363 : Nat) ({ cls := "DiaryHouseModel", name := "lastOf", desc := "(II)I" } : MethodName)) ∈ lw_tbl := tb_r (List.mem_of_getElem? (i := 1666) (by decide +kernel))
theorem tb1668 : (Cond.instanceMethod ({ cls := "DiaryHouseModel", name := "lastOf", desc := "(II)I" } : MethodName)) ∈ lw_tbl := tb_r (List.mem_of_getElem? (i := 1668) (by decide +kernel))
theorem tb1669 : (Cond.code ({ cls := "DiaryHouseModel", name := "lastOf", desc := "(II)I" } : MethodName) prog_14_method_69_code (5 : Nat) (Option.some FieldType.int)) ∈ lw_tbl := tb_r (List.mem_of_getElem? (i := 1669) (by decide +kernel))
theorem tb1670 : (Cond.methodLink "DiaryHouseLaw" (153 : Nat) ({ cls := "DiaryHouseModel", name := "lean", desc := "(II)I" } : MethodName)) ∈ lw_tbl := tb_r (List.mem_of_getElem? (i := 1670) (by decide +kernel))
theorem tb1671 : (Cond.instanceMethod ({ cls := "DiaryHouseModel", name := "lean", desc := "(II)I" } : MethodName)) ∈ lw_tbl := tb_r (List.mem_of_getElem? (i := 1671) (by decide +kernel))
theorem tb1672 : (Cond.selects "DiaryHouseModel" ({ cls := "DiaryHouseModel", name := "lean", desc := "(II)I" } : MethodName) ({ cls := "DiaryHouseModel", name := "lean", desc := "(II)I" } : MethodName)) ∈ lw_tbl := tb_r (List.mem_of_getElem? (i := 1672) (by decide +kernel))
theorem tb1673 : (Cond.code ({ cls := "DiaryHouseModel", name := "lean", desc := "(II)I" } : MethodName) prog_14_method_72_code (10 : Nat) (Option.some FieldType.int)) ∈ lw_tbl := tb_r (List.mem_of_getElem? (i := 1673) (by decide +kernel))
theorem tb1674 : (Cond.methodLink "DiaryHouseModel" (366 : Nat) ({ cls := "DiaryHouseModel", name := "isStopped", desc := "(II)Z" } : MethodName)) ∈ lw_tbl := tb_r (List.mem_of_getElem? (i := 1674) (by decide +kernel))
theorem tb1676 : (Cond.instanceMethod ({ cls := "DiaryHouseModel", name := "isStopped", desc := "(II)Z" } : MethodName)) ∈ lw_tbl := tb_r (List.mem_of_getElem? (i := 1676) (by decide +kernel))
theorem tb1677 : (Cond.code ({ cls := "DiaryHouseModel", name := "isStopped", desc := "(II)Z" } : MethodName) prog_14_method_71_code (4 : Nat) (Option.some FieldType.boolean)) ∈ lw_tbl := tb_r (List.mem_of_getElem? (i := 1677) (by decide +kernel))
theorem tb1678 : (Cond.methodLink "DiaryHouseLaw" (157 : Nat) ({ cls := "DiaryHouseModel", name := "watcher", desc := "(II)I" } : MethodName)) ∈ lw_tbl := tb_r (List.mem_of_getElem? (i := 1678) (by decide +kernel))
theorem tb1679 : (Cond.instanceMethod ({ cls := "DiaryHouseModel", name := "watcher", desc := "(II)I" } : MethodName)) ∈ lw_tbl := tb_r (List.mem_of_getElem? (i := 1679) (by decide +kernel))
theorem tb1680 : (Cond.selects "DiaryHouseModel" ({ cls := "DiaryHouseModel", name := "watcher", desc := "(II)I" } : MethodName) ({ cls := "DiaryHouseModel", name := "watcher", desc := "(II)I" } : MethodName)) ∈ lw_tbl := tb_r (List.mem_of_getElem? (i := 1680) (by decide +kernel))
theorem tb1681 : (Cond.code ({ cls := "DiaryHouseModel", name := "watcher", desc := "(II)I" } : MethodName) prog_14_method_73_code (3 : Nat) (Option.some FieldType.int)) ∈ lw_tbl := tb_r (List.mem_of_getElem? (i := 1681) (by decide +kernel))
theorem tb1682 : (Cond.methodLink "DiaryHouseLaw" (161 : Nat) ({ cls := "DiaryHouseModel", name := "want", desc := "(II)I" } : MethodName)) ∈ lw_tbl := tb_r (List.mem_of_getElem? (i := 1682) (by decide +kernel))
theorem tb1683 : (Cond.instanceMethod ({ cls := "DiaryHouseModel", name := "want", desc := "(II)I" } : MethodName)) ∈ lw_tbl := tb_r (List.mem_of_getElem? (i := 1683) (by decide +kernel))
theorem tb1684 : (Cond.selects "DiaryHouseModel" ({ cls := "DiaryHouseModel", name := "want", desc := "(II)I" } : MethodName) ({ cls := "DiaryHouseModel", name := "want", desc := "(II)I" } : MethodName)) ∈ lw_tbl := tb_r (List.mem_of_getElem? (i := 1684) (by decide +kernel))
theorem tb1685 : (Cond.code ({ cls := "DiaryHouseModel", name := "want", desc := "(II)I" } : MethodName) prog_14_method_74_code (3 : Nat) (Option.some FieldType.int)) ∈ lw_tbl := tb_r (List.mem_of_getElem? (i := 1685) (by decide +kernel))
theorem tb1686 : (Cond.methodLink "DiaryHouseLaw" (165 : Nat) ({ cls := "DiaryHouseModel", name := "table", desc := "(I)I" } : MethodName)) ∈ lw_tbl := tb_r (List.mem_of_getElem? (i := 1686) (by decide +kernel))
theorem tb1687 : (Cond.instanceMethod ({ cls := "DiaryHouseModel", name := "table", desc := "(I)I" } : MethodName)) ∈ lw_tbl := tb_r (List.mem_of_getElem? (i := 1687) (by decide +kernel))
theorem tb1688 : (Cond.selects "DiaryHouseModel" ({ cls := "DiaryHouseModel", name := "table", desc := "(I)I" } : MethodName) ({ cls := "DiaryHouseModel", name := "table", desc := "(I)I" } : MethodName)) ∈ lw_tbl := tb_r (List.mem_of_getElem? (i := 1688) (by decide +kernel))
theorem tb1689 : (Cond.code ({ cls := "DiaryHouseModel", name := "table", desc := "(I)I" } : MethodName) prog_14_method_77_code (2 : Nat) (Option.some FieldType.int)) ∈ lw_tbl := tb_r (List.mem_of_getElem? (i := 1689) (by decide +kernel))
theorem tb1690 : (Cond.methodLink "DiaryHouseModel" (381 : Nat) ({ cls := "DiaryHouseModel", name := "tryTable", desc := "(II)V" } : MethodName)) ∈ lw_tbl := tb_r (List.mem_of_getElem? (i := 1690) (by decide +kernel))
theorem tb1692 : (Cond.instanceMethod ({ cls := "DiaryHouseModel", name := "tryTable", desc := "(II)V" } : MethodName)) ∈ lw_tbl := tb_r (List.mem_of_getElem? (i := 1692) (by decide +kernel))
theorem tb1693 : (Cond.code ({ cls := "DiaryHouseModel", name := "tryTable", desc := "(II)V" } : MethodName) prog_14_method_76_code (4 : Nat) (Option.none : Option FieldType)) ∈ lw_tbl := tb_r (List.mem_of_getElem? (i := 1693) (by decide +kernel))
theorem tb1694 : (Cond.methodLink "DiaryHouseModel" (378 : Nat) ({ cls := "DiaryHouseModel", name := "maySee", desc := "(II)Z" } : MethodName)) ∈ lw_tbl := tb_r (List.mem_of_getElem? (i := 1694) (by decide +kernel))
theorem tb1696 : (Cond.instanceMethod ({ cls := "DiaryHouseModel", name := "maySee", desc := "(II)Z" } : MethodName)) ∈ lw_tbl := tb_r (List.mem_of_getElem? (i := 1696) (by decide +kernel))
theorem tb1697 : (Cond.code ({ cls := "DiaryHouseModel", name := "maySee", desc := "(II)Z" } : MethodName) prog_14_method_75_code (5 : Nat) (Option.some FieldType.boolean)) ∈ lw_tbl := tb_r (List.mem_of_getElem? (i := 1697) (by decide +kernel))
theorem tb1698 : (Cond.methodLink "DiaryHouseLaw" (169 : Nat) ({ cls := "DiaryHouseModel", name := "alike", desc := "(II)I" } : MethodName)) ∈ lw_tbl := tb_r (List.mem_of_getElem? (i := 1698) (by decide +kernel))
theorem tb1699 : (Cond.instanceMethod ({ cls := "DiaryHouseModel", name := "alike", desc := "(II)I" } : MethodName)) ∈ lw_tbl := tb_r (List.mem_of_getElem? (i := 1699) (by decide +kernel))
theorem tb1700 : (Cond.selects "DiaryHouseModel" ({ cls := "DiaryHouseModel", name := "alike", desc := "(II)I" } : MethodName) ({ cls := "DiaryHouseModel", name := "alike", desc := "(II)I" } : MethodName)) ∈ lw_tbl := tb_r (List.mem_of_getElem? (i := 1700) (by decide +kernel))
theorem tb1701 : (Cond.code ({ cls := "DiaryHouseModel", name := "alike", desc := "(II)I" } : MethodName) prog_14_method_79_code (3 : Nat) (Option.some FieldType.int)) ∈ lw_tbl := tb_r (List.mem_of_getElem? (i := 1701) (by decide +kernel))
theorem tb1702 : (Cond.methodLink "DiaryHouseModel" (385 : Nat) ({ cls := "DiaryHouseModel", name := "alikeOf", desc := "(II)I" } : MethodName)) ∈ lw_tbl := tb_r (List.mem_of_getElem? (i := 1702) (by decide +kernel))
theorem tb1704 : (Cond.instanceMethod ({ cls := "DiaryHouseModel", name := "alikeOf", desc := "(II)I" } : MethodName)) ∈ lw_tbl := tb_r (List.mem_of_getElem? (i := 1704) (by decide +kernel))
theorem tb1705 : (Cond.code ({ cls := "DiaryHouseModel", name := "alikeOf", desc := "(II)I" } : MethodName) prog_14_method_78_code (6 : Nat) (Option.some FieldType.int)) ∈ lw_tbl := tb_r (List.mem_of_getElem? (i := 1705) (by decide +kernel))
theorem tb1706 : (Cond.methodLink "DiaryHouseLaw" (173 : Nat) ({ cls := "DiaryHouseModel", name := "hide", desc := "(I)I" } : MethodName)) ∈ lw_tbl := tb_r (List.mem_of_getElem? (i := 1706) (by decide +kernel))
theorem tb1707 : (Cond.instanceMethod ({ cls := "DiaryHouseModel", name := "hide", desc := "(I)I" } : MethodName)) ∈ lw_tbl := tb_r (List.mem_of_getElem? (i := 1707) (by decide +kernel))
theorem tb1708 : (Cond.selects "DiaryHouseModel" ({ cls := "DiaryHouseModel", name := "hide", desc := "(I)I" } : MethodName) ({ cls := "DiaryHouseModel", name := "hide", desc := "(I)I" } : MethodName)) ∈ lw_tbl := tb_r (List.mem_of_getElem? (i := 1708) (by decide +kernel))
theorem tb1709 : (Cond.code ({ cls := "DiaryHouseModel", name := "hide", desc := "(I)I" } : MethodName) prog_14_method_80_code (6 : Nat) (Option.some FieldType.int)) ∈ lw_tbl := tb_r (List.mem_of_getElem? (i := 1709) (by decide +kernel))
theorem tb1710 : (Cond.methodLink "DiaryHouseModel" (388 : Nat) ({ cls := "java/lang/Integer", name := "bitCount", desc := "(I)I" } : MethodName)) ∈ lw_tbl := tb_r (List.mem_of_getElem? (i := 1710) (by decide +kernel))
theorem tb1711 : (Cond.methodLink "DiaryHouseLaw" (177 : Nat) ({ cls := "DiaryHouseModel", name := "question", desc := "(II)I" } : MethodName)) ∈ lw_tbl := tb_r (List.mem_of_getElem? (i := 1711) (by decide +kernel))
theorem tb1712 : (Cond.instanceMethod ({ cls := "DiaryHouseModel", name := "question", desc := "(II)I" } : MethodName)) ∈ lw_tbl := tb_r (List.mem_of_getElem? (i := 1712) (by decide +kernel))
theorem tb1713 : (Cond.selects "DiaryHouseModel" ({ cls := "DiaryHouseModel", name := "question", desc := "(II)I" } : MethodName) ({ cls := "DiaryHouseModel", name := "question", desc := "(II)I" } : MethodName)) ∈ lw_tbl := tb_r (List.mem_of_getElem? (i := 1713) (by decide +kernel))
theorem tb1714 : (Cond.code ({ cls := "DiaryHouseModel", name := "question", desc := "(II)I" } : MethodName) prog_14_method_81_code (3 : Nat) (Option.some FieldType.int)) ∈ lw_tbl := tb_r (List.mem_of_getElem? (i := 1714) (by decide +kernel))
theorem tb1715 : (Cond.methodLink "DiaryHouseLaw" (181 : Nat) ({ cls := "DiaryHouseModel", name := "buy", desc := "(I)I" } : MethodName)) ∈ lw_tbl := tb_r (List.mem_of_getElem? (i := 1715) (by decide +kernel))
theorem tb1716 : (Cond.instanceMethod ({ cls := "DiaryHouseModel", name := "buy", desc := "(I)I" } : MethodName)) ∈ lw_tbl := tb_r (List.mem_of_getElem? (i := 1716) (by decide +kernel))
theorem tb1717 : (Cond.selects "DiaryHouseModel" ({ cls := "DiaryHouseModel", name := "buy", desc := "(I)I" } : MethodName) ({ cls := "DiaryHouseModel", name := "buy", desc := "(I)I" } : MethodName)) ∈ lw_tbl := tb_r (List.mem_of_getElem? (i := 1717) (by decide +kernel))
theorem tb1718 : (Cond.code ({ cls := "DiaryHouseModel", name := "buy", desc := "(I)I" } : MethodName) prog_14_method_84_code (6 : Nat) (Option.some FieldType.int)) ∈ lw_tbl := tb_r (List.mem_of_getElem? (i := 1718) (by decide +kernel))
theorem tb1719 : (Cond.methodLink "DiaryHouseModel" (396 : Nat) ({ cls := "DiaryHouseModel", name := "priceOf", desc := "(I)I" } : MethodName)) ∈ lw_tbl := tb_r (List.mem_of_getElem? (i := 1719) (by decide +kernel))
theorem tb1721 : (Cond.instanceMethod ({ cls := "DiaryHouseModel", name := "priceOf", desc := "(I)I" } : MethodName)) ∈ lw_tbl := tb_r (List.mem_of_getElem? (i := 1721) (by decide +kernel))
theorem tb1722 : (Cond.code ({ cls := "DiaryHouseModel", name := "priceOf", desc := "(I)I" } : MethodName) prog_14_method_82_code (4 : Nat) (Option.some FieldType.int)) ∈ lw_tbl := tb_r (List.mem_of_getElem? (i := 1722) (by decide +kernel))
theorem tb1723 : (Cond.methodLink "DiaryHouseModel" (399 : Nat) ({ cls := "DiaryHouseModel", name := "sortsOf", desc := "(I)I" } : MethodName)) ∈ lw_tbl := tb_r (List.mem_of_getElem? (i := 1723) (by decide +kernel))
theorem tb1725 : (Cond.instanceMethod ({ cls := "DiaryHouseModel", name := "sortsOf", desc := "(I)I" } : MethodName)) ∈ lw_tbl := tb_r (List.mem_of_getElem? (i := 1725) (by decide +kernel))
theorem tb1726 : (Cond.code ({ cls := "DiaryHouseModel", name := "sortsOf", desc := "(I)I" } : MethodName) prog_14_method_83_code (4 : Nat) (Option.some FieldType.int)) ∈ lw_tbl := tb_r (List.mem_of_getElem? (i := 1726) (by decide +kernel))
theorem tb1727 : (Cond.methodLink "DiaryHouseLaw" (185 : Nat) ({ cls := "DiaryHouseModel", name := "judge", desc := "(II)I" } : MethodName)) ∈ lw_tbl := tb_r (List.mem_of_getElem? (i := 1727) (by decide +kernel))
theorem tb1728 : (Cond.instanceMethod ({ cls := "DiaryHouseModel", name := "judge", desc := "(II)I" } : MethodName)) ∈ lw_tbl := tb_r (List.mem_of_getElem? (i := 1728) (by decide +kernel))
theorem tb1729 : (Cond.selects "DiaryHouseModel" ({ cls := "DiaryHouseModel", name := "judge", desc := "(II)I" } : MethodName) ({ cls := "DiaryHouseModel", name := "judge", desc := "(II)I" } : MethodName)) ∈ lw_tbl := tb_r (List.mem_of_getElem? (i := 1729) (by decide +kernel))
theorem tb1730 : (Cond.code ({ cls := "DiaryHouseModel", name := "judge", desc := "(II)I" } : MethodName) prog_14_method_85_code (3 : Nat) (Option.some FieldType.int)) ∈ lw_tbl := tb_r (List.mem_of_getElem? (i := 1730) (by decide +kernel))
theorem tb1731 : (Cond.methodLink "DiaryHouseLaw" (192 : Nat) ({ cls := "DiaryHouseModel", name := "lot", desc := "(IJI)I" } : MethodName)) ∈ lw_tbl := tb_r (List.mem_of_getElem? (i := 1731) (by decide +kernel))
theorem tb1732 : (Cond.instanceMethod ({ cls := "DiaryHouseModel", name := "lot", desc := "(IJI)I" } : MethodName)) ∈ lw_tbl := tb_r (List.mem_of_getElem? (i := 1732) (by decide +kernel))
theorem tb1733 : (Cond.selects "DiaryHouseModel" ({ cls := "DiaryHouseModel", name := "lot", desc := "(IJI)I" } : MethodName) ({ cls := "DiaryHouseModel", name := "lot", desc := "(IJI)I" } : MethodName)) ∈ lw_tbl := tb_r (List.mem_of_getElem? (i := 1733) (by decide +kernel))
theorem tb1734 : (Cond.code ({ cls := "DiaryHouseModel", name := "lot", desc := "(IJI)I" } : MethodName) prog_14_method_87_code (5 : Nat) (Option.some FieldType.int)) ∈ lw_tbl := tb_r (List.mem_of_getElem? (i := 1734) (by decide +kernel))
theorem tb1735 : (Cond.methodLink "DiaryHouseModel" (406 : Nat) ({ cls := "DiaryHouseModel", name := "draws", desc := "(IJ)Z" } : MethodName)) ∈ lw_tbl := tb_r (List.mem_of_getElem? (i := 1735) (by decide +kernel))
theorem tb1737 : (Cond.instanceMethod ({ cls := "DiaryHouseModel", name := "draws", desc := "(IJ)Z" } : MethodName)) ∈ lw_tbl := tb_r (List.mem_of_getElem? (i := 1737) (by decide +kernel))
theorem tb1738 : (Cond.code ({ cls := "DiaryHouseModel", name := "draws", desc := "(IJ)Z" } : MethodName) prog_14_method_86_code (9 : Nat) (Option.some FieldType.boolean)) ∈ lw_tbl := tb_r (List.mem_of_getElem? (i := 1738) (by decide +kernel))
theorem tb1739 : (Cond.constantLong "DiaryHouseModel" (402 : Nat) (6364136223846793005 : Int64)) ∈ lw_tbl := tb_r (List.mem_of_getElem? (i := 1739) (by decide +kernel))
theorem tb1740 : (Cond.constantLong "DiaryHouseModel" (404 : Nat) (1442695040888963407 : Int64)) ∈ lw_tbl := tb_r (List.mem_of_getElem? (i := 1740) (by decide +kernel))
theorem tb1741 : (Cond.methodLink "DiaryHouseLaw" (196 : Nat) ({ cls := "DiaryHouseModel", name := "beside", desc := "(IJI)I" } : MethodName)) ∈ lw_tbl := tb_r (List.mem_of_getElem? (i := 1741) (by decide +kernel))
theorem tb1742 : (Cond.instanceMethod ({ cls := "DiaryHouseModel", name := "beside", desc := "(IJI)I" } : MethodName)) ∈ lw_tbl := tb_r (List.mem_of_getElem? (i := 1742) (by decide +kernel))
theorem tb1743 : (Cond.selects "DiaryHouseModel" ({ cls := "DiaryHouseModel", name := "beside", desc := "(IJI)I" } : MethodName) ({ cls := "DiaryHouseModel", name := "beside", desc := "(IJI)I" } : MethodName)) ∈ lw_tbl := tb_r (List.mem_of_getElem? (i := 1743) (by decide +kernel))
theorem tb1744 : (Cond.code ({ cls := "DiaryHouseModel", name := "beside", desc := "(IJI)I" } : MethodName) prog_14_method_88_code (7 : Nat) (Option.some FieldType.int)) ∈ lw_tbl := tb_r (List.mem_of_getElem? (i := 1744) (by decide +kernel))
theorem tb1745 : (Cond.methodLink "DiaryHouseLaw" (200 : Nat) ({ cls := "DiaryHouseModel", name := "count", desc := "(I)I" } : MethodName)) ∈ lw_tbl := tb_r (List.mem_of_getElem? (i := 1745) (by decide +kernel))
theorem tb1746 : (Cond.instanceMethod ({ cls := "DiaryHouseModel", name := "count", desc := "(I)I" } : MethodName)) ∈ lw_tbl := tb_r (List.mem_of_getElem? (i := 1746) (by decide +kernel))
theorem tb1747 : (Cond.selects "DiaryHouseModel" ({ cls := "DiaryHouseModel", name := "count", desc := "(I)I" } : MethodName) ({ cls := "DiaryHouseModel", name := "count", desc := "(I)I" } : MethodName)) ∈ lw_tbl := tb_r (List.mem_of_getElem? (i := 1747) (by decide +kernel))
theorem tb1748 : (Cond.code ({ cls := "DiaryHouseModel", name := "count", desc := "(I)I" } : MethodName) prog_14_method_89_code (4 : Nat) (Option.some FieldType.int)) ∈ lw_tbl := tb_r (List.mem_of_getElem? (i := 1748) (by decide +kernel))
theorem tb1749 : (Cond.constantLong "DiaryHouseLaw" (186 : Nat) (4294967295 : Int64)) ∈ lw_tbl := tb_r (List.mem_of_getElem? (i := 1749) (by decide +kernel))
theorem sl_X8_canBothBeSeen : Cond.selects yX8_canBothBeSeen.cls yX8_canBothBeSeen yX8_canBothBeSeen ∈ lw_tbl := List.mem_of_getElem? (i := 45) (by decide +kernel)
theorem sl_X8_canSee : Cond.selects yX8_canSee.cls yX8_canSee yX8_canSee ∈ lw_tbl := List.mem_of_getElem? (i := 44) (by decide +kernel)
theorem sl_X8_planAnew : Cond.selects yX8_planAnew.cls yX8_planAnew yX8_planAnew ∈ lw_tbl := List.mem_of_getElem? (i := 43) (by decide +kernel)
theorem sl_X9_addCode : Cond.selects yX9_addCode.cls yX9_addCode yX9_addCode ∈ lw_tbl := List.mem_of_getElem? (i := 11) (by decide +kernel)
theorem sl_X9_readAtom : Cond.selects yX9_readAtom.cls yX9_readAtom yX9_readAtom ∈ lw_tbl := List.mem_of_getElem? (i := 18) (by decide +kernel)
theorem sl_X9_readClause : Cond.selects yX9_readClause.cls yX9_readClause yX9_readClause ∈ lw_tbl := List.mem_of_getElem? (i := 8) (by decide +kernel)
theorem sl_X9_readComparison : Cond.selects yX9_readComparison.cls yX9_readComparison yX9_readComparison ∈ lw_tbl := List.mem_of_getElem? (i := 20) (by decide +kernel)
theorem sl_X9_readCondition : Cond.selects yX9_readCondition.cls yX9_readCondition yX9_readCondition ∈ lw_tbl := List.mem_of_getElem? (i := 13) (by decide +kernel)
theorem sl_X9_readMoreParts : Cond.selects yX9_readMoreParts.cls yX9_readMoreParts yX9_readMoreParts ∈ lw_tbl := List.mem_of_getElem? (i := 22) (by decide +kernel)
theorem sl_X9_readMoreUnits : Cond.selects yX9_readMoreUnits.cls yX9_readMoreUnits yX9_readMoreUnits ∈ lw_tbl := List.mem_of_getElem? (i := 21) (by decide +kernel)
theorem sl_X9_readNumber : Cond.selects yX9_readNumber.cls yX9_readNumber yX9_readNumber ∈ lw_tbl := List.mem_of_getElem? (i := 19) (by decide +kernel)
theorem sl_X9_readPart : Cond.selects yX9_readPart.cls yX9_readPart yX9_readPart ∈ lw_tbl := List.mem_of_getElem? (i := 14) (by decide +kernel)
theorem sl_X9_readSum : Cond.selects yX9_readSum.cls yX9_readSum yX9_readSum ∈ lw_tbl := List.mem_of_getElem? (i := 16) (by decide +kernel)
theorem sl_X9_readTerm : Cond.selects yX9_readTerm.cls yX9_readTerm yX9_readTerm ∈ lw_tbl := List.mem_of_getElem? (i := 17) (by decide +kernel)
theorem sl_X9_readUnit : Cond.selects yX9_readUnit.cls yX9_readUnit yX9_readUnit ∈ lw_tbl := List.mem_of_getElem? (i := 15) (by decide +kernel)
theorem sl_X9_sees : Cond.selects yX9_sees.cls yX9_sees yX9_sees ∈ lw_tbl := List.mem_of_getElem? (i := 9) (by decide +kernel)
theorem sl_X9_take : Cond.selects yX9_take.cls yX9_take yX9_take ∈ lw_tbl := List.mem_of_getElem? (i := 12) (by decide +kernel)
theorem sl_X9_takeSign : Cond.selects yX9_takeSign.cls yX9_takeSign yX9_takeSign ∈ lw_tbl := List.mem_of_getElem? (i := 10) (by decide +kernel)
theorem sl_X10_distance : Cond.selects yX10_distance.cls yX10_distance yX10_distance ∈ lw_tbl := List.mem_of_getElem? (i := 41) (by decide +kernel)
theorem sl_X10_sumAhead : Cond.selects yX10_sumAhead.cls yX10_sumAhead yX10_sumAhead ∈ lw_tbl := List.mem_of_getElem? (i := 40) (by decide +kernel)
theorem sl_X11_alikeTo : Cond.selects yX11_alikeTo.cls yX11_alikeTo yX11_alikeTo ∈ lw_tbl := List.mem_of_getElem? (i := 46) (by decide +kernel)
theorem sl_X11_allHaveAlike : Cond.selects yX11_allHaveAlike.cls yX11_allHaveAlike yX11_allHaveAlike ∈ lw_tbl := List.mem_of_getElem? (i := 47) (by decide +kernel)
theorem sl_X11_allPeople : Cond.selects yX11_allPeople.cls yX11_allPeople yX11_allPeople ∈ lw_tbl := List.mem_of_getElem? (i := 38) (by decide +kernel)
theorem sl_X11_digestSize : Cond.selects yX11_digestSize.cls yX11_digestSize yX11_digestSize ∈ lw_tbl := List.mem_of_getElem? (i := 31) (by decide +kernel)
theorem sl_X11_draw : Cond.selects yX11_draw.cls yX11_draw yX11_draw ∈ lw_tbl := List.mem_of_getElem? (i := 51) (by decide +kernel)
theorem sl_X11_hasStoppedBy : Cond.selects yX11_hasStoppedBy.cls yX11_hasStoppedBy yX11_hasStoppedBy ∈ lw_tbl := List.mem_of_getElem? (i := 5) (by decide +kernel)
theorem sl_X11_insertPick : Cond.selects yX11_insertPick.cls yX11_insertPick yX11_insertPick ∈ lw_tbl := List.mem_of_getElem? (i := 32) (by decide +kernel)
theorem sl_X11_isDigest : Cond.selects yX11_isDigest.cls yX11_isDigest yX11_isDigest ∈ lw_tbl := List.mem_of_getElem? (i := 29) (by decide +kernel)
theorem sl_X11_isDrawn : Cond.selects yX11_isDrawn.cls yX11_isDrawn yX11_isDrawn ∈ lw_tbl := List.mem_of_getElem? (i := 52) (by decide +kernel)
theorem sl_X11_isHearing : Cond.selects yX11_isHearing.cls yX11_isHearing yX11_isHearing ∈ lw_tbl := List.mem_of_getElem? (i := 4) (by decide +kernel)
theorem sl_X11_isKnownDay : Cond.selects yX11_isKnownDay.cls yX11_isKnownDay yX11_isKnownDay ∈ lw_tbl := List.mem_of_getElem? (i := 7) (by decide +kernel)
theorem sl_X11_isLine : Cond.selects yX11_isLine.cls yX11_isLine yX11_isLine ∈ lw_tbl := List.mem_of_getElem? (i := 27) (by decide +kernel)
theorem sl_X11_isLineKnown : Cond.selects yX11_isLineKnown.cls yX11_isLineKnown yX11_isLineKnown ∈ lw_tbl := List.mem_of_getElem? (i := 26) (by decide +kernel)
theorem sl_X11_isLotSize : Cond.selects yX11_isLotSize.cls yX11_isLotSize yX11_isLotSize ∈ lw_tbl := List.mem_of_getElem? (i := 50) (by decide +kernel)
theorem sl_X11_isPerson : Cond.selects yX11_isPerson.cls yX11_isPerson yX11_isPerson ∈ lw_tbl := List.mem_of_getElem? (i := 3) (by decide +kernel)
theorem sl_X11_lastOf : Cond.selects yX11_lastOf.cls yX11_lastOf yX11_lastOf ∈ lw_tbl := List.mem_of_getElem? (i := 42) (by decide +kernel)
theorem sl_X11_layMarks : Cond.selects yX11_layMarks.cls yX11_layMarks yX11_layMarks ∈ lw_tbl := List.mem_of_getElem? (i := 36) (by decide +kernel)
theorem sl_X11_linesFor : Cond.selects yX11_linesFor.cls yX11_linesFor yX11_linesFor ∈ lw_tbl := List.mem_of_getElem? (i := 34) (by decide +kernel)
theorem sl_X11_mayBeShown : Cond.selects yX11_mayBeShown.cls yX11_mayBeShown yX11_mayBeShown ∈ lw_tbl := List.mem_of_getElem? (i := 28) (by decide +kernel)
theorem sl_X11_meanMood : Cond.selects yX11_meanMood.cls yX11_meanMood yX11_meanMood ∈ lw_tbl := List.mem_of_getElem? (i := 39) (by decide +kernel)
theorem sl_X11_personsGone : Cond.selects yX11_personsGone.cls yX11_personsGone yX11_personsGone ∈ lw_tbl := List.mem_of_getElem? (i := 53) (by decide +kernel)
theorem sl_X11_pickDigest : Cond.selects yX11_pickDigest.cls yX11_pickDigest yX11_pickDigest ∈ lw_tbl := List.mem_of_getElem? (i := 30) (by decide +kernel)
theorem sl_X11_priceOf : Cond.selects yX11_priceOf.cls yX11_priceOf yX11_priceOf ∈ lw_tbl := List.mem_of_getElem? (i := 48) (by decide +kernel)
theorem sl_X11_readersGiving : Cond.selects yX11_readersGiving.cls yX11_readersGiving yX11_readersGiving ∈ lw_tbl := List.mem_of_getElem? (i := 37) (by decide +kernel)
theorem sl_X11_ruleInForce : Cond.selects yX11_ruleInForce.cls yX11_ruleInForce yX11_ruleInForce ∈ lw_tbl := List.mem_of_getElem? (i := 23) (by decide +kernel)
theorem sl_X11_setPersonLetters : Cond.selects yX11_setPersonLetters.cls yX11_setPersonLetters yX11_setPersonLetters ∈ lw_tbl := List.mem_of_getElem? (i := 24) (by decide +kernel)
theorem sl_X11_sortsOf : Cond.selects yX11_sortsOf.cls yX11_sortsOf yX11_sortsOf ∈ lw_tbl := List.mem_of_getElem? (i := 49) (by decide +kernel)
theorem sl_X11_stopDayOf : Cond.selects yX11_stopDayOf.cls yX11_stopDayOf yX11_stopDayOf ∈ lw_tbl := List.mem_of_getElem? (i := 6) (by decide +kernel)
theorem sl_X11_strengthOf : Cond.selects yX11_strengthOf.cls yX11_strengthOf yX11_strengthOf ∈ lw_tbl := List.mem_of_getElem? (i := 33) (by decide +kernel)
theorem sl_X11_wordOf : Cond.selects yX11_wordOf.cls yX11_wordOf yX11_wordOf ∈ lw_tbl := List.mem_of_getElem? (i := 35) (by decide +kernel)
theorem sl_X11_worthOf : Cond.selects yX11_worthOf.cls yX11_worthOf yX11_worthOf ∈ lw_tbl := List.mem_of_getElem? (i := 25) (by decide +kernel)
theorem sl_X12_alikeOf : Cond.selects yX12_alikeOf.cls yX12_alikeOf yX12_alikeOf ∈ lw_tbl := List.mem_of_getElem? (i := 90) (by decide +kernel)
theorem sl_X12_apart : Cond.selects yX12_apart.cls yX12_apart yX12_apart ∈ lw_tbl := List.mem_of_getElem? (i := 85) (by decide +kernel)
theorem sl_X12_atom : Cond.selects yX12_atom.cls yX12_atom yX12_atom ∈ lw_tbl := List.mem_of_getElem? (i := 70) (by decide +kernel)
theorem sl_X12_clause : Cond.selects yX12_clause.cls yX12_clause yX12_clause ∈ lw_tbl := List.mem_of_getElem? (i := 61) (by decide +kernel)
theorem sl_X12_compares : Cond.selects yX12_compares.cls yX12_compares yX12_compares ∈ lw_tbl := List.mem_of_getElem? (i := 67) (by decide +kernel)
theorem sl_X12_condition : Cond.selects yX12_condition.cls yX12_condition yX12_condition ∈ lw_tbl := List.mem_of_getElem? (i := 65) (by decide +kernel)
theorem sl_X12_digests : Cond.selects yX12_digests.cls yX12_digests yX12_digests ∈ lw_tbl := List.mem_of_getElem? (i := 80) (by decide +kernel)
theorem sl_X12_draws : Cond.selects yX12_draws.cls yX12_draws yX12_draws ∈ lw_tbl := List.mem_of_getElem? (i := 93) (by decide +kernel)
theorem sl_X12_fails : Cond.selects yX12_fails.cls yX12_fails yX12_fails ∈ lw_tbl := List.mem_of_getElem? (i := 63) (by decide +kernel)
theorem sl_X12_goThrough : Cond.selects yX12_goThrough.cls yX12_goThrough yX12_goThrough ∈ lw_tbl := List.mem_of_getElem? (i := 60) (by decide +kernel)
theorem sl_X12_goesIn : Cond.selects yX12_goesIn.cls yX12_goesIn yX12_goesIn ∈ lw_tbl := List.mem_of_getElem? (i := 71) (by decide +kernel)
theorem sl_X12_isDigit : Cond.selects yX12_isDigit.cls yX12_isDigit yX12_isDigit ∈ lw_tbl := List.mem_of_getElem? (i := 72) (by decide +kernel)
theorem sl_X12_isKnown : Cond.selects yX12_isKnown.cls yX12_isKnown yX12_isKnown ∈ lw_tbl := List.mem_of_getElem? (i := 58) (by decide +kernel)
theorem sl_X12_isLine : Cond.selects yX12_isLine.cls yX12_isLine yX12_isLine ∈ lw_tbl := List.mem_of_getElem? (i := 57) (by decide +kernel)
theorem sl_X12_isLineBy : Cond.selects yX12_isLineBy.cls yX12_isLineBy yX12_isLineBy ∈ lw_tbl := List.mem_of_getElem? (i := 78) (by decide +kernel)
theorem sl_X12_isPerson : Cond.selects yX12_isPerson.cls yX12_isPerson yX12_isPerson ∈ lw_tbl := List.mem_of_getElem? (i := 55) (by decide +kernel)
theorem sl_X12_isStopped : Cond.selects yX12_isStopped.cls yX12_isStopped yX12_isStopped ∈ lw_tbl := List.mem_of_getElem? (i := 87) (by decide +kernel)
theorem sl_X12_lastOf : Cond.selects yX12_lastOf.cls yX12_lastOf yX12_lastOf ∈ lw_tbl := List.mem_of_getElem? (i := 86) (by decide +kernel)
theorem sl_X12_letPerson : Cond.selects yX12_letPerson.cls yX12_letPerson yX12_letPerson ∈ lw_tbl := List.mem_of_getElem? (i := 76) (by decide +kernel)
theorem sl_X12_look : Cond.selects yX12_look.cls yX12_look yX12_look ∈ lw_tbl := List.mem_of_getElem? (i := 62) (by decide +kernel)
theorem sl_X12_markOf : Cond.selects yX12_markOf.cls yX12_markOf yX12_markOf ∈ lw_tbl := List.mem_of_getElem? (i := 82) (by decide +kernel)
theorem sl_X12_maySee : Cond.selects yX12_maySee.cls yX12_maySee yX12_maySee ∈ lw_tbl := List.mem_of_getElem? (i := 89) (by decide +kernel)
theorem sl_X12_mayShow : Cond.selects yX12_mayShow.cls yX12_mayShow yX12_mayShow ∈ lw_tbl := List.mem_of_getElem? (i := 79) (by decide +kernel)
theorem sl_X12_noLetters : Cond.selects yX12_noLetters.cls yX12_noLetters yX12_noLetters ∈ lw_tbl := List.mem_of_getElem? (i := 75) (by decide +kernel)
theorem sl_X12_part : Cond.selects yX12_part.cls yX12_part yX12_part ∈ lw_tbl := List.mem_of_getElem? (i := 66) (by decide +kernel)
theorem sl_X12_people : Cond.selects yX12_people.cls yX12_people yX12_people ∈ lw_tbl := List.mem_of_getElem? (i := 83) (by decide +kernel)
theorem sl_X12_priceOf : Cond.selects yX12_priceOf.cls yX12_priceOf yX12_priceOf ∈ lw_tbl := List.mem_of_getElem? (i := 91) (by decide +kernel)
theorem sl_X12_put : Cond.selects yX12_put.cls yX12_put yX12_put ∈ lw_tbl := List.mem_of_getElem? (i := 59) (by decide +kernel)
theorem sl_X12_ruleOn : Cond.selects yX12_ruleOn.cls yX12_ruleOn yX12_ruleOn ∈ lw_tbl := List.mem_of_getElem? (i := 74) (by decide +kernel)
theorem sl_X12_sortsOf : Cond.selects yX12_sortsOf.cls yX12_sortsOf yX12_sortsOf ∈ lw_tbl := List.mem_of_getElem? (i := 92) (by decide +kernel)
theorem sl_X12_stopsFrom : Cond.selects yX12_stopsFrom.cls yX12_stopsFrom yX12_stopsFrom ∈ lw_tbl := List.mem_of_getElem? (i := 56) (by decide +kernel)
theorem sl_X12_stratum : Cond.selects yX12_stratum.cls yX12_stratum yX12_stratum ∈ lw_tbl := List.mem_of_getElem? (i := 84) (by decide +kernel)
theorem sl_X12_sum : Cond.selects yX12_sum.cls yX12_sum yX12_sum ∈ lw_tbl := List.mem_of_getElem? (i := 68) (by decide +kernel)
theorem sl_X12_takes : Cond.selects yX12_takes.cls yX12_takes yX12_takes ∈ lw_tbl := List.mem_of_getElem? (i := 64) (by decide +kernel)
theorem sl_X12_term : Cond.selects yX12_term.cls yX12_term yX12_term ∈ lw_tbl := List.mem_of_getElem? (i := 69) (by decide +kernel)
theorem sl_X12_tryTable : Cond.selects yX12_tryTable.cls yX12_tryTable yX12_tryTable ∈ lw_tbl := List.mem_of_getElem? (i := 88) (by decide +kernel)
theorem sl_X12_unit : Cond.selects yX12_unit.cls yX12_unit yX12_unit ∈ lw_tbl := List.mem_of_getElem? (i := 73) (by decide +kernel)
theorem sl_X12_wordOf : Cond.selects yX12_wordOf.cls yX12_wordOf yX12_wordOf ∈ lw_tbl := List.mem_of_getElem? (i := 81) (by decide +kernel)
theorem sl_X12_worth : Cond.selects yX12_worth.cls yX12_worth yX12_worth ∈ lw_tbl := List.mem_of_getElem? (i := 77) (by decide +kernel)
theorem sl_Jx4a65c_add_72be8 : Cond.selects yJx4a65c_add_72be8.cls yJx4a65c_add_72be8 yJx4a65c_add_72be8 ∈ lw_tbl := List.mem_of_getElem? (i := 0) (by decide +kernel)
theorem sl_Jx4a65c_grow_d5877 : Cond.selects yJx4a65c_grow_d5877.cls yJx4a65c_grow_d5877 yJx4a65c_grow_d5877 ∈ lw_tbl := List.mem_of_getElem? (i := 1) (by decide +kernel)
theorem sl_Jx4a65c_grow_92f84 : Cond.selects yJx4a65c_grow_92f84.cls yJx4a65c_grow_92f84 yJx4a65c_grow_92f84 ∈ lw_tbl := List.mem_of_getElem? (i := 2) (by decide +kernel)
theorem lc_J0_checkBoundsBeginEnd_23922 : LkC MJ0_checkBoundsBeginEnd_23922 3 := ⟨tb516, tb8, by decide, by decide +kernel, by decide⟩
theorem lc_J0_coder_7d493 : LkC MJ0_coder_7d493 0 := ⟨tb150, tb8, by decide, by decide +kernel, by decide⟩
theorem lc_J0_indexOf_0f7a4 : LkC MJ0_indexOf_0f7a4 1 := ⟨tb478, tb8, by decide, by decide +kernel, by decide⟩
theorem lc_J0_indexOf_7cf53 : LkC MJ0_indexOf_7cf53 2 := ⟨tb482, tb8, by decide, by decide +kernel, by decide⟩
theorem lc_J0_isLatin1_aae02 : LkC MJ0_isLatin1_aae02 0 := ⟨tb486, tb8, by decide, by decide +kernel, by decide⟩
theorem lc_J0_length_8abf5 : LkC MJ0_length_8abf5 0 := ⟨tb146, tb8, by decide, by decide +kernel, by decide⟩
theorem lc_J11_highSurrogate_5068e : LkC MJ11_highSurrogate_5068e 1 := ⟨tb542, tb26, by decide, by decide +kernel, by decide⟩
theorem lc_J11_isValidCodePoint_9a6ad : LkC MJ11_isValidCodePoint_9a6ad 1 := ⟨tb539, tb26, by decide, by decide +kernel, by decide⟩
theorem lc_J11_lowSurrogate_5068e : LkC MJ11_lowSurrogate_5068e 1 := ⟨tb546, tb26, by decide, by decide +kernel, by decide⟩
theorem lc_J15_checkIndex_7cf53 : LkC MJ15_checkIndex_7cf53 2 := ⟨tb358, tb16, by decide, by decide +kernel, by decide⟩
theorem lc_J1_canEncode_9a6ad : LkC MJ1_canEncode_9a6ad 1 := ⟨tb493, tb24, by decide, by decide +kernel, by decide⟩
theorem lc_J1_indexOfChar_4cfef : LkC MJ1_indexOfChar_4cfef 4 := ⟨tb498, tb24, by decide, by decide +kernel, by decide⟩
theorem lc_J1_indexOf_4cfef : LkC MJ1_indexOf_4cfef 4 := ⟨tb490, tb24, by decide, by decide +kernel, by decide⟩
theorem lc_J2_checkBoundsBeginEnd_d044e : LkC MJ2_checkBoundsBeginEnd_d044e 3 := ⟨tb510, tb25, by decide, by decide +kernel, by decide⟩
theorem lc_J2_getChar_3b067 : LkC MJ2_getChar_3b067 2 := ⟨tb527, tb25, by decide, by decide +kernel, by decide⟩
theorem lc_J2_indexOfCharUnsafe_4cfef : LkC MJ2_indexOfCharUnsafe_4cfef 4 := ⟨tb524, tb25, by decide, by decide +kernel, by decide⟩
theorem lc_J2_indexOfChar_4cfef : LkC MJ2_indexOfChar_4cfef 4 := ⟨tb507, tb25, by decide, by decide +kernel, by decide⟩
theorem lc_J2_indexOfSupplementary_4cfef : LkC MJ2_indexOfSupplementary_4cfef 4 := ⟨tb536, tb25, by decide, by decide +kernel, by decide⟩
theorem lc_J2_indexOf_4cfef : LkC MJ2_indexOf_4cfef 4 := ⟨tb501, tb25, by decide, by decide +kernel, by decide⟩
theorem lc_J2_length_9d52b : LkC MJ2_length_9d52b 1 := ⟨tb513, tb25, by decide, by decide +kernel, by decide⟩
theorem lc_J3_checkFromToIndex_8c36e : LkC MJ3_checkFromToIndex_8c36e 4 := ⟨tb521, tb17, by decide, by decide +kernel, by decide⟩
theorem lc_J3_checkIndex_8e157 : LkC MJ3_checkIndex_8e157 3 := ⟨tb361, tb17, by decide, by decide +kernel, by decide⟩
theorem lc_J6_bitCount_0f7a4 : LkC MJ6_bitCount_0f7a4 1 := ⟨tb1060, tb30, by decide, by decide +kernel, by decide⟩
theorem lc_J7_copyOf_1904c : LkC MJ7_copyOf_1904c 2 := ⟨tb292, tb14, by decide, by decide +kernel, by decide⟩
theorem lc_J7_copyOf_59c91 : LkC MJ7_copyOf_59c91 2 := ⟨tb628, tb14, by decide, by decide +kernel, by decide⟩
theorem lc_J7_copyOf_6403c : LkC MJ7_copyOf_6403c 3 := ⟨tb314, tb14, by decide, by decide +kernel, by decide⟩
theorem lc_J7_fill_53178 : LkC MJ7_fill_53178 2 := ⟨tb670, tb14, by decide, by decide +kernel, by decide⟩
theorem lc_J8_hugeLength_7cf53 : LkC MJ8_hugeLength_7cf53 2 := ⟨tb289, tb12, by decide, by decide +kernel, by decide⟩
theorem lc_J8_newLength_cabcc : LkC MJ8_newLength_cabcc 3 := ⟨tb282, tb12, by decide, by decide +kernel, by decide⟩
theorem lc_J9_abs_067f4 : LkC MJ9_abs_067f4 1 := ⟨tb927, tb13, by decide, by decide +kernel, by decide⟩
theorem lc_J9_abs_0f7a4 : LkC MJ9_abs_0f7a4 1 := ⟨tb759, tb13, by decide, by decide +kernel, by decide⟩
theorem lc_J9_max_7cf53 : LkC MJ9_max_7cf53 2 := ⟨tb285, tb13, by decide, by decide +kernel, by decide⟩
theorem lc_J9_max_f86c9 : LkC MJ9_max_f86c9 2 := ⟨tb707, tb13, by decide, by decide +kernel, by decide⟩
theorem lc_J9_min_7cf53 : LkC MJ9_min_7cf53 2 := ⟨tb320, tb13, by decide, by decide +kernel, by decide⟩
theorem lc_J9_min_f86c9 : LkC MJ9_min_f86c9 2 := ⟨tb704, tb13, by decide, by decide +kernel, by decide⟩
theorem lc_Jx4a65c_add_72be8 : LkC MJx4a65c_add_72be8 3 := ⟨tb271, tb4, by decide, by decide +kernel, by decide⟩
theorem lc_Jx4a65c_add_9ea2d : LkC MJx4a65c_add_9ea2d 1 := ⟨tb267, tb4, by decide, by decide +kernel, by decide⟩
theorem lc_Jx4a65c_elementData_915e3 : LkC MJx4a65c_elementData_915e3 1 := ⟨tb365, tb4, by decide, by decide +kernel, by decide⟩
theorem lc_Jx4a65c_get_915e3 : LkC MJx4a65c_get_915e3 1 := ⟨tb355, tb4, by decide, by decide +kernel, by decide⟩
theorem lc_Jx4a65c_grow_92f84 : LkC MJx4a65c_grow_92f84 1 := ⟨tb279, tb4, by decide, by decide +kernel, by decide⟩
theorem lc_Jx4a65c_grow_d5877 : LkC MJx4a65c_grow_d5877 0 := ⟨tb275, tb4, by decide, by decide +kernel, by decide⟩
theorem lc_Jx4a65c_init_da8c8 : LkC MJx4a65c_init_da8c8 0 := ⟨tb44, tb4, by decide, by decide +kernel, by decide⟩
theorem lc_Jx4a65c_size_8abf5 : LkC MJx4a65c_size_8abf5 0 := ⟨tb236, tb4, by decide, by decide +kernel, by decide⟩
theorem lc_Jxa1e45_init_da8c8 : LkC MJxa1e45_init_da8c8 0 := ⟨tb50, tb2, by decide, by decide +kernel, by decide⟩
theorem lc_Jxc12de_init_da8c8 : LkC MJxc12de_init_da8c8 0 := ⟨tb47, tb3, by decide, by decide +kernel, by decide⟩
theorem lc_X0_init : LkC MX0_init 5 := ⟨tb776, tb28, by decide, by decide +kernel, by decide⟩
theorem lc_X0_isOf : LkC MX0_isOf 3 := ⟨tb803, tb28, by decide, by decide +kernel, by decide⟩
theorem lc_X10_add : LkC MX10_add 2 := ⟨tb912, tb7, by decide, by decide +kernel, by decide⟩
theorem lc_X10_chanceAt : LkC MX10_chanceAt 1 := ⟨tb936, tb7, by decide, by decide +kernel, by decide⟩
theorem lc_X10_clear : LkC MX10_clear 0 := ⟨tb908, tb7, by decide, by decide +kernel, by decide⟩
theorem lc_X10_dayAt : LkC MX10_dayAt 1 := ⟨tb931, tb7, by decide, by decide +kernel, by decide⟩
theorem lc_X10_distance : LkC MX10_distance 3 := ⟨tb924, tb7, by decide, by decide +kernel, by decide⟩
theorem lc_X10_init : LkC MX10_init 0 := ⟨tb128, tb7, by decide, by decide +kernel, by decide⟩
theorem lc_X10_split : LkC MX10_split 0 := ⟨tb916, tb7, by decide, by decide +kernel, by decide⟩
theorem lc_X10_sumAhead : LkC MX10_sumAhead 1 := ⟨tb920, tb7, by decide, by decide +kernel, by decide⟩
theorem lc_X11_agree : LkC MX11_agree 4 := ⟨tb860, tb1, by decide, by decide +kernel, by decide⟩
theorem lc_X11_alike : LkC MX11_alike 2 := ⟨tb1005, tb1, by decide, by decide +kernel, by decide⟩
theorem lc_X11_alikeTo : LkC MX11_alikeTo 2 := ⟨tb1009, tb1, by decide, by decide +kernel, by decide⟩
theorem lc_X11_allHaveAlike : LkC MX11_allHaveAlike 2 := ⟨tb1023, tb1, by decide, by decide +kernel, by decide⟩
theorem lc_X11_allPeople : LkC MX11_allPeople 0 := ⟨tb888, tb1, by decide, by decide +kernel, by decide⟩
theorem lc_X11_asked : LkC MX11_asked 4 := ⟨tb663, tb1, by decide, by decide +kernel, by decide⟩
theorem lc_X11_bearers : LkC MX11_bearers 2 := ⟨tb818, tb1, by decide, by decide +kernel, by decide⟩
theorem lc_X11_beside : LkC MX11_beside 3 := ⟨tb1088, tb1, by decide, by decide +kernel, by decide⟩
theorem lc_X11_buy : LkC MX11_buy 1 := ⟨tb1046, tb1, by decide, by decide +kernel, by decide⟩
theorem lc_X11_bytesIn : LkC MX11_bytesIn 1 := ⟨tb441, tb1, by decide, by decide +kernel, by decide⟩
theorem lc_X11_count : LkC MX11_count 1 := ⟨tb1096, tb1, by decide, by decide +kernel, by decide⟩
theorem lc_X11_days : LkC MX11_days 1 := ⟨tb222, tb1, by decide, by decide +kernel, by decide⟩
theorem lc_X11_digest : LkC MX11_digest 5 := ⟨tb730, tb1, by decide, by decide +kernel, by decide⟩
theorem lc_X11_digestSize : LkC MX11_digestSize 3 := ⟨tb742, tb1, by decide, by decide +kernel, by decide⟩
theorem lc_X11_draw : LkC MX11_draw 2 := ⟨tb1082, tb1, by decide, by decide +kernel, by decide⟩
theorem lc_X11_end : LkC MX11_end 1 := ⟨tb453, tb1, by decide, by decide +kernel, by decide⟩
theorem lc_X11_fault : LkC MX11_fault 0 := ⟨tb461, tb1, by decide, by decide +kernel, by decide⟩
theorem lc_X11_feed : LkC MX11_feed 5 := ⟨tb438, tb1, by decide, by decide +kernel, by decide⟩
theorem lc_X11_force : LkC MX11_force 2 := ⟨tb655, tb1, by decide, by decide +kernel, by decide⟩
theorem lc_X11_habit : LkC MX11_habit 2 := ⟨tb864, tb1, by decide, by decide +kernel, by decide⟩
theorem lc_X11_happen : LkC MX11_happen 4 := ⟨tb771, tb1, by decide, by decide +kernel, by decide⟩
theorem lc_X11_hasStoppedBy : LkC MX11_hasStoppedBy 3 := ⟨tb347, tb1, by decide, by decide +kernel, by decide⟩
theorem lc_X11_hasTheFirstUnlike : LkC MX11_hasTheFirstUnlike 2 := ⟨tb1066, tb1, by decide, by decide +kernel, by decide⟩
theorem lc_X11_held : LkC MX11_held 2 := ⟨tb872, tb1, by decide, by decide +kernel, by decide⟩
theorem lc_X11_hide : LkC MX11_hide 1 := ⟨tb1017, tb1, by decide, by decide +kernel, by decide⟩
theorem lc_X11_init : LkC MX11_init 0 := ⟨tb36, tb1, by decide, by decide +kernel, by decide⟩
theorem lc_X11_insertPick : LkC MX11_insertPick 3 := ⟨tb752, tb1, by decide, by decide +kernel, by decide⟩
theorem lc_X11_isCoin : LkC MX11_isCoin 1 := ⟨tb1049, tb1, by decide, by decide +kernel, by decide⟩
theorem lc_X11_isDay : LkC MX11_isDay 1 := ⟨tb408, tb1, by decide, by decide +kernel, by decide⟩
theorem lc_X11_isDigest : LkC MX11_isDigest 4 := ⟨tb734, tb1, by decide, by decide +kernel, by decide⟩
theorem lc_X11_isDrawn : LkC MX11_isDrawn 2 := ⟨tb1092, tb1, by decide, by decide +kernel, by decide⟩
theorem lc_X11_isHearing : LkC MX11_isHearing 3 := ⟨tb340, tb1, by decide, by decide +kernel, by decide⟩
theorem lc_X11_isHour : LkC MX11_isHour 1 := ⟨tb955, tb1, by decide, by decide +kernel, by decide⟩
theorem lc_X11_isKnownDay : LkC MX11_isKnownDay 1 := ⟨tb434, tb1, by decide, by decide +kernel, by decide⟩
theorem lc_X11_isLine : LkC MX11_isLine 1 := ⟨tb719, tb1, by decide, by decide +kernel, by decide⟩
theorem lc_X11_isLineKnown : LkC MX11_isLineKnown 2 := ⟨tb715, tb1, by decide, by decide +kernel, by decide⟩
theorem lc_X11_isLotSize : LkC MX11_isLotSize 1 := ⟨tb1078, tb1, by decide, by decide +kernel, by decide⟩
theorem lc_X11_isPerson : LkC MX11_isPerson 1 := ⟨tb333, tb1, by decide, by decide +kernel, by decide⟩
theorem lc_X11_isPlace : LkC MX11_isPlace 1 := ⟨tb232, tb1, by decide, by decide +kernel, by decide⟩
theorem lc_X11_isRank : LkC MX11_isRank 1 := ⟨tb722, tb1, by decide, by decide +kernel, by decide⟩
theorem lc_X11_isReader : LkC MX11_isReader 1 := ⟨tb825, tb1, by decide, by decide +kernel, by decide⟩
theorem lc_X11_isSaying : LkC MX11_isSaying 1 := ⟨tb343, tb1, by decide, by decide +kernel, by decide⟩
theorem lc_X11_isSort : LkC MX11_isSort 1 := ⟨tb336, tb1, by decide, by decide +kernel, by decide⟩
theorem lc_X11_isWithin : LkC MX11_isWithin 3 := ⟨tb225, tb1, by decide, by decide +kernel, by decide⟩
theorem lc_X11_judge : LkC MX11_judge 2 := ⟨tb1070, tb1, by decide, by decide +kernel, by decide⟩
theorem lc_X11_land : LkC MX11_land 3 := ⟨tb880, tb1, by decide, by decide +kernel, by decide⟩
theorem lc_X11_last : LkC MX11_last 2 := ⟨tb940, tb1, by decide, by decide +kernel, by decide⟩
theorem lc_X11_lastOf : LkC MX11_lastOf 2 := ⟨tb944, tb1, by decide, by decide +kernel, by decide⟩
theorem lc_X11_layMarks : LkC MX11_layMarks 1 := ⟨tb856, tb1, by decide, by decide +kernel, by decide⟩
theorem lc_X11_lean : LkC MX11_lean 2 := ⟨tb948, tb1, by decide, by decide +kernel, by decide⟩
theorem lc_X11_left : LkC MX11_left 4 := ⟨tb763, tb1, by decide, by decide +kernel, by decide⟩
theorem lc_X11_line : LkC MX11_line 6 := ⟨tb329, tb1, by decide, by decide +kernel, by decide⟩
theorem lc_X11_linesFor : LkC MX11_linesFor 2 := ⟨tb767, tb1, by decide, by decide +kernel, by decide⟩
theorem lc_X11_lot : LkC MX11_lot 3 := ⟨tb1074, tb1, by decide, by decide +kernel, by decide⟩
theorem lc_X11_mark : LkC MX11_mark 3 := ⟨tb822, tb1, by decide, by decide +kernel, by decide⟩
theorem lc_X11_marked : LkC MX11_marked 3 := ⟨tb852, tb1, by decide, by decide +kernel, by decide⟩
theorem lc_X11_mayBeShown : LkC MX11_mayBeShown 4 := ⟨tb726, tb1, by decide, by decide +kernel, by decide⟩
theorem lc_X11_meanMood : LkC MX11_meanMood 5 := ⟨tb892, tb1, by decide, by decide +kernel, by decide⟩
theorem lc_X11_mood : LkC MX11_mood 3 := ⟨tb900, tb1, by decide, by decide +kernel, by decide⟩
theorem lc_X11_person : LkC MX11_person 3 := ⟨tb229, tb1, by decide, by decide +kernel, by decide⟩
theorem lc_X11_personsGone : LkC MX11_personsGone 0 := ⟨tb1104, tb1, by decide, by decide +kernel, by decide⟩
theorem lc_X11_pickDigest : LkC MX11_pickDigest 4 := ⟨tb738, tb1, by decide, by decide +kernel, by decide⟩
theorem lc_X11_priceOf : LkC MX11_priceOf 1 := ⟨tb1053, tb1, by decide, by decide +kernel, by decide⟩
theorem lc_X11_question : LkC MX11_question 2 := ⟨tb1027, tb1, by decide, by decide +kernel, by decide⟩
theorem lc_X11_readersGiving : LkC MX11_readersGiving 2 := ⟨tb876, tb1, by decide, by decide +kernel, by decide⟩
theorem lc_X11_rule : LkC MX11_rule 1 := ⟨tb619, tb1, by decide, by decide +kernel, by decide⟩
theorem lc_X11_ruleInForce : LkC MX11_ruleInForce 2 := ⟨tb659, tb1, by decide, by decide +kernel, by decide⟩
theorem lc_X11_setPersonLetters : LkC MX11_setPersonLetters 1 := ⟨tb667, tb1, by decide, by decide +kernel, by decide⟩
theorem lc_X11_share : LkC MX11_share 3 := ⟨tb868, tb1, by decide, by decide +kernel, by decide⟩
theorem lc_X11_shown : LkC MX11_shown 4 := ⟨tb711, tb1, by decide, by decide +kernel, by decide⟩
theorem lc_X11_sortsOf : LkC MX11_sortsOf 1 := ⟨tb1057, tb1, by decide, by decide +kernel, by decide⟩
theorem lc_X11_span : LkC MX11_span 4 := ⟨tb884, tb1, by decide, by decide +kernel, by decide⟩
theorem lc_X11_stop : LkC MX11_stop 2 := ⟨tb405, tb1, by decide, by decide +kernel, by decide⟩
theorem lc_X11_stopDayOf : LkC MX11_stopDayOf 2 := ⟨tb351, tb1, by decide, by decide +kernel, by decide⟩
theorem lc_X11_stopped : LkC MX11_stopped 2 := ⟨tb430, tb1, by decide, by decide +kernel, by decide⟩
theorem lc_X11_strengthOf : LkC MX11_strengthOf 1 := ⟨tb756, tb1, by decide, by decide +kernel, by decide⟩
theorem lc_X11_table : LkC MX11_table 1 := ⟨tb989, tb1, by decide, by decide +kernel, by decide⟩
theorem lc_X11_told : LkC MX11_told 2 := ⟨tb1112, tb1, by decide, by decide +kernel, by decide⟩
theorem lc_X11_truth : LkC MX11_truth 2 := ⟨tb799, tb1, by decide, by decide +kernel, by decide⟩
theorem lc_X11_turn : LkC MX11_turn 4 := ⟨tb904, tb1, by decide, by decide +kernel, by decide⟩
theorem lc_X11_want : LkC MX11_want 2 := ⟨tb981, tb1, by decide, by decide +kernel, by decide⟩
theorem lc_X11_watcher : LkC MX11_watcher 2 := ⟨tb952, tb1, by decide, by decide +kernel, by decide⟩
theorem lc_X11_way : LkC MX11_way 4 := ⟨tb807, tb1, by decide, by decide +kernel, by decide⟩
theorem lc_X11_wayPart : LkC MX11_wayPart 4 := ⟨tb814, tb1, by decide, by decide +kernel, by decide⟩
theorem lc_X11_wordOf : LkC MX11_wordOf 3 := ⟨tb811, tb1, by decide, by decide +kernel, by decide⟩
theorem lc_X11_worthOf : LkC MX11_worthOf 2 := ⟨tb674, tb1, by decide, by decide +kernel, by decide⟩
theorem lc_X12_agree : LkC MX12_agree 4 := ⟨tb1622, tb10, by decide, by decide +kernel, by decide⟩
theorem lc_X12_alike : LkC MX12_alike 2 := ⟨tb1701, tb10, by decide, by decide +kernel, by decide⟩
theorem lc_X12_alikeOf : LkC MX12_alikeOf 2 := ⟨tb1705, tb10, by decide, by decide +kernel, by decide⟩
theorem lc_X12_apart : LkC MX12_apart 2 := ⟨tb1660, tb10, by decide, by decide +kernel, by decide⟩
theorem lc_X12_asked : LkC MX12_asked 4 := ⟨tb1544, tb10, by decide, by decide +kernel, by decide⟩
theorem lc_X12_atom : LkC MX12_atom 0 := ⟨tb1505, tb10, by decide, by decide +kernel, by decide⟩
theorem lc_X12_bearers : LkC MX12_bearers 2 := ⟨tb1603, tb10, by decide, by decide +kernel, by decide⟩
theorem lc_X12_beside : LkC MX12_beside 3 := ⟨tb1744, tb10, by decide, by decide +kernel, by decide⟩
theorem lc_X12_bound : LkC MX12_bound 1 := ⟨tb1517, tb10, by decide, by decide +kernel, by decide⟩
theorem lc_X12_buy : LkC MX12_buy 1 := ⟨tb1718, tb10, by decide, by decide +kernel, by decide⟩
theorem lc_X12_bytesIn : LkC MX12_bytesIn 1 := ⟨tb1447, tb10, by decide, by decide +kernel, by decide⟩
theorem lc_X12_clause : LkC MX12_clause 0 := ⟨tb1467, tb10, by decide, by decide +kernel, by decide⟩
theorem lc_X12_compares : LkC MX12_compares 2 := ⟨tb1493, tb10, by decide, by decide +kernel, by decide⟩
theorem lc_X12_condition : LkC MX12_condition 2 := ⟨tb1485, tb10, by decide, by decide +kernel, by decide⟩
theorem lc_X12_count : LkC MX12_count 1 := ⟨tb1748, tb10, by decide, by decide +kernel, by decide⟩
theorem lc_X12_days : LkC MX12_days 1 := ⟨tb1395, tb10, by decide, by decide +kernel, by decide⟩
theorem lc_X12_digest : LkC MX12_digest 5 := ⟨tb1572, tb10, by decide, by decide +kernel, by decide⟩
theorem lc_X12_digests : LkC MX12_digests 4 := ⟨tb1576, tb10, by decide, by decide +kernel, by decide⟩
theorem lc_X12_draws : LkC MX12_draws 2 := ⟨tb1738, tb10, by decide, by decide +kernel, by decide⟩
theorem lc_X12_end : LkC MX12_end 1 := ⟨tb1455, tb10, by decide, by decide +kernel, by decide⟩
theorem lc_X12_fails : LkC MX12_fails 0 := ⟨tb1477, tb10, by decide, by decide +kernel, by decide⟩
theorem lc_X12_fault : LkC MX12_fault 0 := ⟨tb1459, tb10, by decide, by decide +kernel, by decide⟩
theorem lc_X12_feed : LkC MX12_feed 5 := ⟨tb1444, tb10, by decide, by decide +kernel, by decide⟩
theorem lc_X12_force : LkC MX12_force 2 := ⟨tb1536, tb10, by decide, by decide +kernel, by decide⟩
theorem lc_X12_goThrough : LkC MX12_goThrough 4 := ⟨tb1463, tb10, by decide, by decide +kernel, by decide⟩
theorem lc_X12_goesIn : LkC MX12_goesIn 0 := ⟨tb1510, tb10, by decide, by decide +kernel, by decide⟩
theorem lc_X12_habit : LkC MX12_habit 2 := ⟨tb1626, tb10, by decide, by decide +kernel, by decide⟩
theorem lc_X12_happen : LkC MX12_happen 4 := ⟨tb1587, tb10, by decide, by decide +kernel, by decide⟩
theorem lc_X12_held : LkC MX12_held 2 := ⟨tb1631, tb10, by decide, by decide +kernel, by decide⟩
theorem lc_X12_hide : LkC MX12_hide 1 := ⟨tb1709, tb10, by decide, by decide +kernel, by decide⟩
theorem lc_X12_init : LkC MX12_init 0 := ⟨tb1186, tb10, by decide, by decide +kernel, by decide⟩
theorem lc_X12_isDay : LkC MX12_isDay 1 := ⟨tb1432, tb10, by decide, by decide +kernel, by decide⟩
theorem lc_X12_isDigit : LkC MX12_isDigit 0 := ⟨tb1514, tb10, by decide, by decide +kernel, by decide⟩
theorem lc_X12_isIn : LkC MX12_isIn 3 := ⟨tb1398, tb10, by decide, by decide +kernel, by decide⟩
theorem lc_X12_isKnown : LkC MX12_isKnown 1 := ⟨tb1440, tb10, by decide, by decide +kernel, by decide⟩
theorem lc_X12_isLine : LkC MX12_isLine 1 := ⟨tb1425, tb10, by decide, by decide +kernel, by decide⟩
theorem lc_X12_isLineBy : LkC MX12_isLineBy 2 := ⟨tb1564, tb10, by decide, by decide +kernel, by decide⟩
theorem lc_X12_isPerson : LkC MX12_isPerson 1 := ⟨tb1410, tb10, by decide, by decide +kernel, by decide⟩
theorem lc_X12_isReader : LkC MX12_isReader 1 := ⟨tb1610, tb10, by decide, by decide +kernel, by decide⟩
theorem lc_X12_isSign : LkC MX12_isSign 1 := ⟨tb1524, tb10, by decide, by decide +kernel, by decide⟩
theorem lc_X12_isSort : LkC MX12_isSort 1 := ⟨tb1413, tb10, by decide, by decide +kernel, by decide⟩
theorem lc_X12_isStopped : LkC MX12_isStopped 2 := ⟨tb1677, tb10, by decide, by decide +kernel, by decide⟩
theorem lc_X12_judge : LkC MX12_judge 2 := ⟨tb1730, tb10, by decide, by decide +kernel, by decide⟩
theorem lc_X12_land : LkC MX12_land 3 := ⟨tb1635, tb10, by decide, by decide +kernel, by decide⟩
theorem lc_X12_last : LkC MX12_last 2 := ⟨tb1665, tb10, by decide, by decide +kernel, by decide⟩
theorem lc_X12_lastOf : LkC MX12_lastOf 2 := ⟨tb1669, tb10, by decide, by decide +kernel, by decide⟩
theorem lc_X12_lean : LkC MX12_lean 2 := ⟨tb1673, tb10, by decide, by decide +kernel, by decide⟩
theorem lc_X12_left : LkC MX12_left 4 := ⟨tb1583, tb10, by decide, by decide +kernel, by decide⟩
theorem lc_X12_letPerson : LkC MX12_letPerson 1 := ⟨tb1552, tb10, by decide, by decide +kernel, by decide⟩
theorem lc_X12_line : LkC MX12_line 6 := ⟨tb1406, tb10, by decide, by decide +kernel, by decide⟩
theorem lc_X12_look : LkC MX12_look 0 := ⟨tb1471, tb10, by decide, by decide +kernel, by decide⟩
theorem lc_X12_lot : LkC MX12_lot 3 := ⟨tb1734, tb10, by decide, by decide +kernel, by decide⟩
theorem lc_X12_mark : LkC MX12_mark 3 := ⟨tb1607, tb10, by decide, by decide +kernel, by decide⟩
theorem lc_X12_markOf : LkC MX12_markOf 3 := ⟨tb1618, tb10, by decide, by decide +kernel, by decide⟩
theorem lc_X12_marked : LkC MX12_marked 3 := ⟨tb1614, tb10, by decide, by decide +kernel, by decide⟩
theorem lc_X12_maySee : LkC MX12_maySee 2 := ⟨tb1697, tb10, by decide, by decide +kernel, by decide⟩
theorem lc_X12_mayShow : LkC MX12_mayShow 4 := ⟨tb1568, tb10, by decide, by decide +kernel, by decide⟩
theorem lc_X12_mood : LkC MX12_mood 3 := ⟨tb1652, tb10, by decide, by decide +kernel, by decide⟩
theorem lc_X12_noLetters : LkC MX12_noLetters 0 := ⟨tb1548, tb10, by decide, by decide +kernel, by decide⟩
theorem lc_X12_part : LkC MX12_part 2 := ⟨tb1489, tb10, by decide, by decide +kernel, by decide⟩
theorem lc_X12_people : LkC MX12_people 0 := ⟨tb1643, tb10, by decide, by decide +kernel, by decide⟩
theorem lc_X12_person : LkC MX12_person 3 := ⟨tb1402, tb10, by decide, by decide +kernel, by decide⟩
theorem lc_X12_priceOf : LkC MX12_priceOf 1 := ⟨tb1722, tb10, by decide, by decide +kernel, by decide⟩
theorem lc_X12_put : LkC MX12_put 1 := ⟨tb1451, tb10, by decide, by decide +kernel, by decide⟩
theorem lc_X12_question : LkC MX12_question 2 := ⟨tb1714, tb10, by decide, by decide +kernel, by decide⟩
theorem lc_X12_rule : LkC MX12_rule 1 := ⟨tb1532, tb10, by decide, by decide +kernel, by decide⟩
theorem lc_X12_ruleOn : LkC MX12_ruleOn 2 := ⟨tb1540, tb10, by decide, by decide +kernel, by decide⟩
theorem lc_X12_shown : LkC MX12_shown 4 := ⟨tb1560, tb10, by decide, by decide +kernel, by decide⟩
theorem lc_X12_sortsOf : LkC MX12_sortsOf 1 := ⟨tb1726, tb10, by decide, by decide +kernel, by decide⟩
theorem lc_X12_span : LkC MX12_span 4 := ⟨tb1639, tb10, by decide, by decide +kernel, by decide⟩
theorem lc_X12_stop : LkC MX12_stop 2 := ⟨tb1429, tb10, by decide, by decide +kernel, by decide⟩
theorem lc_X12_stopped : LkC MX12_stopped 2 := ⟨tb1436, tb10, by decide, by decide +kernel, by decide⟩
theorem lc_X12_stopsFrom : LkC MX12_stopsFrom 2 := ⟨tb1417, tb10, by decide, by decide +kernel, by decide⟩
theorem lc_X12_stratum : LkC MX12_stratum 1 := ⟨tb1647, tb10, by decide, by decide +kernel, by decide⟩
theorem lc_X12_sum : LkC MX12_sum 0 := ⟨tb1497, tb10, by decide, by decide +kernel, by decide⟩
theorem lc_X12_table : LkC MX12_table 1 := ⟨tb1689, tb10, by decide, by decide +kernel, by decide⟩
theorem lc_X12_takes : LkC MX12_takes 1 := ⟨tb1481, tb10, by decide, by decide +kernel, by decide⟩
theorem lc_X12_term : LkC MX12_term 0 := ⟨tb1501, tb10, by decide, by decide +kernel, by decide⟩
theorem lc_X12_thrown : LkC MX12_thrown 0 := ⟨tb1391, tb10, by decide, by decide +kernel, by decide⟩
theorem lc_X12_told : LkC MX12_told 2 := ⟨tb1421, tb10, by decide, by decide +kernel, by decide⟩
theorem lc_X12_truth : LkC MX12_truth 2 := ⟨tb1591, tb10, by decide, by decide +kernel, by decide⟩
theorem lc_X12_tryTable : LkC MX12_tryTable 2 := ⟨tb1693, tb10, by decide, by decide +kernel, by decide⟩
theorem lc_X12_turn : LkC MX12_turn 4 := ⟨tb1656, tb10, by decide, by decide +kernel, by decide⟩
theorem lc_X12_unit : LkC MX12_unit 0 := ⟨tb1528, tb10, by decide, by decide +kernel, by decide⟩
theorem lc_X12_want : LkC MX12_want 2 := ⟨tb1685, tb10, by decide, by decide +kernel, by decide⟩
theorem lc_X12_watcher : LkC MX12_watcher 2 := ⟨tb1681, tb10, by decide, by decide +kernel, by decide⟩
theorem lc_X12_way : LkC MX12_way 4 := ⟨tb1595, tb10, by decide, by decide +kernel, by decide⟩
theorem lc_X12_wordOf : LkC MX12_wordOf 3 := ⟨tb1599, tb10, by decide, by decide +kernel, by decide⟩
theorem lc_X12_worth : LkC MX12_worth 3 := ⟨tb1556, tb10, by decide, by decide +kernel, by decide⟩
theorem lc_X1_init : LkC MX1_init 7 := ⟨tb371, tb18, by decide, by decide +kernel, by decide⟩
theorem lc_X1_isFor : LkC MX1_isFor 2 := ⟨tb748, tb18, by decide, by decide +kernel, by decide⟩
theorem lc_X1_part : LkC MX1_part 1 := ⟨tb1181, tb18, by decide, by decide +kernel, by decide⟩
theorem lc_X2_init : LkC MX2_init 4 := ⟨tb830, tb29, by decide, by decide +kernel, by decide⟩
theorem lc_X3_clear : LkC MX3_clear 0 := ⟨tb682, tb9, by decide, by decide +kernel, by decide⟩
theorem lc_X3_init : LkC MX3_init 0 := ⟨tb157, tb9, by decide, by decide +kernel, by decide⟩
theorem lc_X3_pop : LkC MX3_pop 0 := ⟨tb688, tb9, by decide, by decide +kernel, by decide⟩
theorem lc_X3_push : LkC MX3_push 1 := ⟨tb695, tb9, by decide, by decide +kernel, by decide⟩
theorem lc_X4_init : LkC MX4_init 4 := ⟨tb241, tb11, by decide, by decide +kernel, by decide⟩
theorem lc_X4_isLike : LkC MX4_isLike 2 := ⟨tb1013, tb11, by decide, by decide +kernel, by decide⟩
theorem lc_X4_livesIn : LkC MX4_livesIn 2 := ⟨tb896, tb11, by decide, by decide +kernel, by decide⟩
theorem lc_X5_init : LkC MX5_init 2 := ⟨tb1032, tb31, by decide, by decide +kernel, by decide⟩
theorem lc_X6_init : LkC MX6_init 3 := ⟨tb638, tb27, by decide, by decide +kernel, by decide⟩
theorem lc_X6_joined : LkC MX6_joined 3 := ⟨tb699, tb27, by decide, by decide +kernel, by decide⟩
theorem lc_X6_work : LkC MX6_work 3 := ⟨tb691, tb27, by decide, by decide +kernel, by decide⟩
theorem lc_X6_worth : LkC MX6_worth 3 := ⟨tb678, tb27, by decide, by decide +kernel, by decide⟩
theorem lc_X7_init : LkC MX7_init 3 := ⟨tb412, tb23, by decide, by decide +kernel, by decide⟩
theorem lc_X8_addWanted : LkC MX8_addWanted 2 := ⟨tb985, tb6, by decide, by decide +kernel, by decide⟩
theorem lc_X8_addWatcher : LkC MX8_addWatcher 2 := ⟨tb959, tb6, by decide, by decide +kernel, by decide⟩
theorem lc_X8_canBothBeSeen : LkC MX8_canBothBeSeen 2 := ⟨tb976, tb6, by decide, by decide +kernel, by decide⟩
theorem lc_X8_canSee : LkC MX8_canSee 2 := ⟨tb971, tb6, by decide, by decide +kernel, by decide⟩
theorem lc_X8_init : LkC MX8_init 0 := ⟨tb94, tb6, by decide, by decide +kernel, by decide⟩
theorem lc_X8_planAnew : LkC MX8_planAnew 0 := ⟨tb963, tb6, by decide, by decide +kernel, by decide⟩
theorem lc_X8_seen : LkC MX8_seen 0 := ⟨tb993, tb6, by decide, by decide +kernel, by decide⟩
theorem lc_X8_tryFrom : LkC MX8_tryFrom 3 := ⟨tb966, tb6, by decide, by decide +kernel, by decide⟩
theorem lc_X8_wanted : LkC MX8_wanted 0 := ⟨tb997, tb6, by decide, by decide +kernel, by decide⟩
theorem lc_X8_watcherOf : LkC MX8_watcherOf 1 := ⟨tb1001, tb6, by decide, by decide +kernel, by decide⟩
theorem lc_X8_watchers : LkC MX8_watchers 0 := ⟨tb1100, tb6, by decide, by decide +kernel, by decide⟩
theorem lc_X9_addCode : LkC MX9_addCode 1 := ⟨tb555, tb5, by decide, by decide +kernel, by decide⟩
theorem lc_X9_append : LkC MX9_append 1 := ⟨tb449, tb5, by decide, by decide +kernel, by decide⟩
theorem lc_X9_codesRead : LkC MX9_codesRead 0 := ⟨tb625, tb5, by decide, by decide +kernel, by decide⟩
theorem lc_X9_cut : LkC MX9_cut 1 := ⟨tb457, tb5, by decide, by decide +kernel, by decide⟩
theorem lc_X9_init : LkC MX9_init 0 := ⟨tb70, tb5, by decide, by decide +kernel, by decide⟩
theorem lc_X9_length : LkC MX9_length 0 := ⟨tb445, tb5, by decide, by decide +kernel, by decide⟩
theorem lc_X9_read : LkC MX9_read 0 := ⟨tb465, tb5, by decide, by decide +kernel, by decide⟩
theorem lc_X9_readAtom : LkC MX9_readAtom 1 := ⟨tb588, tb5, by decide, by decide +kernel, by decide⟩
theorem lc_X9_readClause : LkC MX9_readClause 0 := ⟨tb469, tb5, by decide, by decide +kernel, by decide⟩
theorem lc_X9_readComparison : LkC MX9_readComparison 1 := ⟨tb602, tb5, by decide, by decide +kernel, by decide⟩
theorem lc_X9_readCondition : LkC MX9_readCondition 1 := ⟨tb565, tb5, by decide, by decide +kernel, by decide⟩
theorem lc_X9_readMoreParts : LkC MX9_readMoreParts 1 := ⟨tb612, tb5, by decide, by decide +kernel, by decide⟩
theorem lc_X9_readMoreUnits : LkC MX9_readMoreUnits 1 := ⟨tb607, tb5, by decide, by decide +kernel, by decide⟩
theorem lc_X9_readNumber : LkC MX9_readNumber 0 := ⟨tb595, tb5, by decide, by decide +kernel, by decide⟩
theorem lc_X9_readPart : LkC MX9_readPart 1 := ⟨tb569, tb5, by decide, by decide +kernel, by decide⟩
theorem lc_X9_readSum : LkC MX9_readSum 1 := ⟨tb580, tb5, by decide, by decide +kernel, by decide⟩
theorem lc_X9_readTerm : LkC MX9_readTerm 1 := ⟨tb584, tb5, by decide, by decide +kernel, by decide⟩
theorem lc_X9_readUnit : LkC MX9_readUnit 1 := ⟨tb573, tb5, by decide, by decide +kernel, by decide⟩
theorem lc_X9_sees : LkC MX9_sees 1 := ⟨tb474, tb5, by decide, by decide +kernel, by decide⟩
theorem lc_X9_take : LkC MX9_take 1 := ⟨tb560, tb5, by decide, by decide +kernel, by decide⟩
theorem lc_X9_takeSign : LkC MX9_takeSign 0 := ⟨tb551, tb5, by decide, by decide +kernel, by decide⟩
theorem lf_Jx4a65c_48 : LkF RJx4a65c 48 0 2 := ⟨_, rfl, by decide, Or.inl tb55, Or.inl rfl⟩
theorem lf_Jx4a65c_63 : LkF RJx4a65c 63 0 0 := ⟨_, rfl, by decide, Or.inl tb57, Or.inr tb58⟩
theorem lf_Jx4a65c_9 : LkF RJx4a65c 9 0 1 := ⟨_, rfl, by decide, Or.inl tb54, Or.inl rfl⟩
theorem lf_X0_13 : LkF RX0 13 1 1 := ⟨_, rfl, by decide, Or.inl tb779, Or.inl rfl⟩
theorem lf_X0_16 : LkF RX0 16 1 2 := ⟨_, rfl, by decide, Or.inl tb780, Or.inl rfl⟩
theorem lf_X0_7 : LkF RX0 7 1 0 := ⟨_, rfl, by decide, Or.inl tb778, Or.inl rfl⟩
theorem lf_X1_13 : LkF RX1 13 2 1 := ⟨_, rfl, by decide, Or.inl tb375, Or.inl rfl⟩
theorem lf_X1_17 : LkF RX1 17 2 2 := ⟨_, rfl, by decide, Or.inl tb377, Or.inl rfl⟩
theorem lf_X1_20 : LkF RX1 20 2 3 := ⟨_, rfl, by decide, Or.inl tb379, Or.inl rfl⟩
theorem lf_X1_23 : LkF RX1 23 2 4 := ⟨_, rfl, by decide, Or.inl tb381, Or.inl rfl⟩
theorem lf_X1_26 : LkF RX1 26 2 5 := ⟨_, rfl, by decide, Or.inl tb383, Or.inl rfl⟩
theorem lf_X1_29 : LkF RX1 29 2 6 := ⟨_, rfl, by decide, Or.inl tb385, Or.inl rfl⟩
theorem lf_X1_32 : LkF RX1 32 5 0 := ⟨_, rfl, by decide, Or.inr ⟨_, tb244⟩, Or.inl rfl⟩
theorem lf_X1_7 : LkF RX1 7 2 0 := ⟨_, rfl, by decide, Or.inl tb373, Or.inl rfl⟩
theorem lf_X10_15 : LkF RX10 15 11 1 := ⟨_, rfl, by decide, Or.inl tb131, Or.inl rfl⟩
theorem lf_X10_18 : LkF RX10 18 11 2 := ⟨_, rfl, by decide, Or.inl tb132, Or.inl rfl⟩
theorem lf_X10_9 : LkF RX10 9 11 0 := ⟨_, rfl, by decide, Or.inl tb130, Or.inl rfl⟩
theorem lf_X11_10 : LkF RX11 10 12 1 := ⟨_, rfl, by decide, Or.inl tb168, Or.inl rfl⟩
theorem lf_X11_16 : LkF RX11 16 12 2 := ⟨_, rfl, by decide, Or.inl tb169, Or.inl rfl⟩
theorem lf_X11_165 : LkF RX11 165 8 0 := ⟨_, rfl, by decide, Or.inr ⟨_, tb415⟩, Or.inl rfl⟩
theorem lf_X11_168 : LkF RX11 168 8 2 := ⟨_, rfl, by decide, Or.inr ⟨_, tb419⟩, Or.inl rfl⟩
theorem lf_X11_171 : LkF RX11 171 8 1 := ⟨_, rfl, by decide, Or.inr ⟨_, tb417⟩, Or.inl rfl⟩
theorem lf_X11_19 : LkF RX11 19 12 3 := ⟨_, rfl, by decide, Or.inl tb170, Or.inl rfl⟩
theorem lf_X11_200 : LkF RX11 200 7 1 := ⟨_, rfl, by decide, Or.inr ⟨_, tb643⟩, Or.inl rfl⟩
theorem lf_X11_201 : LkF RX11 201 7 0 := ⟨_, rfl, by decide, Or.inr ⟨_, tb641⟩, Or.inl rfl⟩
theorem lf_X11_22 : LkF RX11 22 12 4 := ⟨_, rfl, by decide, Or.inl tb171, Or.inl rfl⟩
theorem lf_X11_222 : LkF RX11 222 5 2 := ⟨_, rfl, by decide, Or.inr ⟨_, tb249⟩, Or.inl rfl⟩
theorem lf_X11_225 : LkF RX11 225 5 1 := ⟨_, rfl, by decide, Or.inr ⟨_, tb247⟩, Or.inl rfl⟩
theorem lf_X11_228 : LkF RX11 228 5 3 := ⟨_, rfl, by decide, Or.inr ⟨_, tb251⟩, Or.inl rfl⟩
theorem lf_X11_238 : LkF RX11 238 2 1 := ⟨_, rfl, by decide, Or.inr ⟨_, tb376⟩, Or.inl rfl⟩
theorem lf_X11_243 : LkF RX11 243 2 0 := ⟨_, rfl, by decide, Or.inr ⟨_, tb374⟩, Or.inl rfl⟩
theorem lf_X11_247 : LkF RX11 247 2 2 := ⟨_, rfl, by decide, Or.inr ⟨_, tb378⟩, Or.inl rfl⟩
theorem lf_X11_25 : LkF RX11 25 12 5 := ⟨_, rfl, by decide, Or.inl tb172, Or.inl rfl⟩
theorem lf_X11_250 : LkF RX11 250 2 3 := ⟨_, rfl, by decide, Or.inr ⟨_, tb380⟩, Or.inl rfl⟩
theorem lf_X11_28 : LkF RX11 28 12 6 := ⟨_, rfl, by decide, Or.inl tb173, Or.inl rfl⟩
theorem lf_X11_293 : LkF RX11 293 1 4 := ⟨_, rfl, by decide, Or.inr ⟨_, tb784⟩, Or.inl rfl⟩
theorem lf_X11_297 : LkF RX11 297 1 3 := ⟨_, rfl, by decide, Or.inr ⟨_, tb782⟩, Or.inl rfl⟩
theorem lf_X11_305 : LkF RX11 305 2 5 := ⟨_, rfl, by decide, Or.inr ⟨_, tb384⟩, Or.inl rfl⟩
theorem lf_X11_309 : LkF RX11 309 5 0 := ⟨_, rfl, by decide, Or.inr ⟨_, tb245⟩, Or.inl rfl⟩
theorem lf_X11_31 : LkF RX11 31 12 7 := ⟨_, rfl, by decide, Or.inl tb174, Or.inl rfl⟩
theorem lf_X11_312 : LkF RX11 312 2 4 := ⟨_, rfl, by decide, Or.inr ⟨_, tb382⟩, Or.inl rfl⟩
theorem lf_X11_315 : LkF RX11 315 2 6 := ⟨_, rfl, by decide, Or.inr ⟨_, tb386⟩, Or.inl rfl⟩
theorem lf_X11_325 : LkF RX11 325 3 3 := ⟨_, rfl, by decide, Or.inr ⟨_, tb839⟩, Or.inl rfl⟩
theorem lf_X11_326 : LkF RX11 326 3 0 := ⟨_, rfl, by decide, Or.inr ⟨_, tb833⟩, Or.inl rfl⟩
theorem lf_X11_329 : LkF RX11 329 3 1 := ⟨_, rfl, by decide, Or.inr ⟨_, tb835⟩, Or.inl rfl⟩
theorem lf_X11_332 : LkF RX11 332 3 2 := ⟨_, rfl, by decide, Or.inr ⟨_, tb837⟩, Or.inl rfl⟩
theorem lf_X11_37 : LkF RX11 37 12 8 := ⟨_, rfl, by decide, Or.inl tb175, Or.inl rfl⟩
theorem lf_X11_418 : LkF RX11 418 6 0 := ⟨_, rfl, by decide, Or.inr ⟨_, tb1035⟩, Or.inl rfl⟩
theorem lf_X11_421 : LkF RX11 421 6 1 := ⟨_, rfl, by decide, Or.inr ⟨_, tb1037⟩, Or.inl rfl⟩
theorem lf_X11_44 : LkF RX11 44 12 9 := ⟨_, rfl, by decide, Or.inl tb176, Or.inl rfl⟩
theorem lf_X11_51 : LkF RX11 51 12 10 := ⟨_, rfl, by decide, Or.inl tb177, Or.inl rfl⟩
theorem lf_X11_57 : LkF RX11 57 12 11 := ⟨_, rfl, by decide, Or.inl tb178, Or.inl rfl⟩
theorem lf_X11_60 : LkF RX11 60 12 12 := ⟨_, rfl, by decide, Or.inl tb179, Or.inl rfl⟩
theorem lf_X11_71 : LkF RX11 71 12 13 := ⟨_, rfl, by decide, Or.inl tb180, Or.inl rfl⟩
theorem lf_X11_78 : LkF RX11 78 12 14 := ⟨_, rfl, by decide, Or.inl tb181, Or.inl rfl⟩
theorem lf_X11_82 : LkF RX11 82 12 15 := ⟨_, rfl, by decide, Or.inl tb182, Or.inl rfl⟩
theorem lf_X11_85 : LkF RX11 85 12 16 := ⟨_, rfl, by decide, Or.inl tb183, Or.inl rfl⟩
theorem lf_X11_88 : LkF RX11 88 12 0 := ⟨_, rfl, by decide, Or.inl tb167, Or.inl rfl⟩
theorem lf_X12_102 : LkF RX12 102 13 48 := ⟨_, rfl, by decide, Or.inl tb1236, Or.inl rfl⟩
theorem lf_X12_105 : LkF RX12 105 13 50 := ⟨_, rfl, by decide, Or.inl tb1238, Or.inl rfl⟩
theorem lf_X12_108 : LkF RX12 108 13 51 := ⟨_, rfl, by decide, Or.inl tb1239, Or.inl rfl⟩
theorem lf_X12_111 : LkF RX12 111 13 53 := ⟨_, rfl, by decide, Or.inl tb1241, Or.inl rfl⟩
theorem lf_X12_114 : LkF RX12 114 13 54 := ⟨_, rfl, by decide, Or.inl tb1242, Or.inl rfl⟩
theorem lf_X12_117 : LkF RX12 117 13 55 := ⟨_, rfl, by decide, Or.inl tb1243, Or.inl rfl⟩
theorem lf_X12_120 : LkF RX12 120 13 56 := ⟨_, rfl, by decide, Or.inl tb1244, Or.inl rfl⟩
theorem lf_X12_123 : LkF RX12 123 13 57 := ⟨_, rfl, by decide, Or.inl tb1245, Or.inl rfl⟩
theorem lf_X12_126 : LkF RX12 126 13 58 := ⟨_, rfl, by decide, Or.inl tb1246, Or.inl rfl⟩
theorem lf_X12_129 : LkF RX12 129 13 62 := ⟨_, rfl, by decide, Or.inl tb1250, Or.inl rfl⟩
theorem lf_X12_13 : LkF RX12 13 13 3 := ⟨_, rfl, by decide, Or.inl tb1191, Or.inl rfl⟩
theorem lf_X12_132 : LkF RX12 132 13 63 := ⟨_, rfl, by decide, Or.inl tb1251, Or.inl rfl⟩
theorem lf_X12_135 : LkF RX12 135 13 64 := ⟨_, rfl, by decide, Or.inl tb1252, Or.inl rfl⟩
theorem lf_X12_138 : LkF RX12 138 13 0 := ⟨_, rfl, by decide, Or.inl tb1188, Or.inl rfl⟩
theorem lf_X12_142 : LkF RX12 142 13 1 := ⟨_, rfl, by decide, Or.inl tb1189, Or.inl rfl⟩
theorem lf_X12_149 : LkF RX12 149 13 15 := ⟨_, rfl, by decide, Or.inl tb1203, Or.inl rfl⟩
theorem lf_X12_152 : LkF RX12 152 13 16 := ⟨_, rfl, by decide, Or.inl tb1204, Or.inl rfl⟩
theorem lf_X12_16 : LkF RX12 16 13 4 := ⟨_, rfl, by decide, Or.inl tb1192, Or.inl rfl⟩
theorem lf_X12_162 : LkF RX12 162 13 17 := ⟨_, rfl, by decide, Or.inl tb1205, Or.inl rfl⟩
theorem lf_X12_178 : LkF RX12 178 13 24 := ⟨_, rfl, by decide, Or.inl tb1212, Or.inl rfl⟩
theorem lf_X12_189 : LkF RX12 189 13 29 := ⟨_, rfl, by decide, Or.inl tb1217, Or.inl rfl⟩
theorem lf_X12_19 : LkF RX12 19 13 5 := ⟨_, rfl, by decide, Or.inl tb1193, Or.inl rfl⟩
theorem lf_X12_192 : LkF RX12 192 13 28 := ⟨_, rfl, by decide, Or.inl tb1216, Or.inl rfl⟩
theorem lf_X12_195 : LkF RX12 195 13 27 := ⟨_, rfl, by decide, Or.inl tb1215, Or.inl rfl⟩
theorem lf_X12_198 : LkF RX12 198 13 30 := ⟨_, rfl, by decide, Or.inl tb1218, Or.inl rfl⟩
theorem lf_X12_201 : LkF RX12 201 13 31 := ⟨_, rfl, by decide, Or.inl tb1219, Or.inl rfl⟩
theorem lf_X12_22 : LkF RX12 22 13 6 := ⟨_, rfl, by decide, Or.inl tb1194, Or.inl rfl⟩
theorem lf_X12_25 : LkF RX12 25 13 7 := ⟨_, rfl, by decide, Or.inl tb1195, Or.inl rfl⟩
theorem lf_X12_272 : LkF RX12 272 13 34 := ⟨_, rfl, by decide, Or.inl tb1222, Or.inl rfl⟩
theorem lf_X12_276 : LkF RX12 276 13 32 := ⟨_, rfl, by decide, Or.inl tb1220, Or.inl rfl⟩
theorem lf_X12_279 : LkF RX12 279 13 33 := ⟨_, rfl, by decide, Or.inl tb1221, Or.inl rfl⟩
theorem lf_X12_28 : LkF RX12 28 13 8 := ⟨_, rfl, by decide, Or.inl tb1196, Or.inl rfl⟩
theorem lf_X12_289 : LkF RX12 289 13 25 := ⟨_, rfl, by decide, Or.inl tb1213, Or.inl rfl⟩
theorem lf_X12_31 : LkF RX12 31 13 9 := ⟨_, rfl, by decide, Or.inl tb1197, Or.inl rfl⟩
theorem lf_X12_317 : LkF RX12 317 13 36 := ⟨_, rfl, by decide, Or.inl tb1224, Or.inl rfl⟩
theorem lf_X12_320 : LkF RX12 320 13 37 := ⟨_, rfl, by decide, Or.inl tb1225, Or.inl rfl⟩
theorem lf_X12_329 : LkF RX12 329 13 44 := ⟨_, rfl, by decide, Or.inl tb1232, Or.inl rfl⟩
theorem lf_X12_335 : LkF RX12 335 13 49 := ⟨_, rfl, by decide, Or.inl tb1237, Or.inl rfl⟩
theorem lf_X12_34 : LkF RX12 34 13 10 := ⟨_, rfl, by decide, Or.inl tb1198, Or.inl rfl⟩
theorem lf_X12_353 : LkF RX12 353 13 52 := ⟨_, rfl, by decide, Or.inl tb1240, Or.inl rfl⟩
theorem lf_X12_369 : LkF RX12 369 13 59 := ⟨_, rfl, by decide, Or.inl tb1247, Or.inl rfl⟩
theorem lf_X12_37 : LkF RX12 37 13 11 := ⟨_, rfl, by decide, Or.inl tb1199, Or.inl rfl⟩
theorem lf_X12_372 : LkF RX12 372 13 60 := ⟨_, rfl, by decide, Or.inl tb1248, Or.inl rfl⟩
theorem lf_X12_375 : LkF RX12 375 13 61 := ⟨_, rfl, by decide, Or.inl tb1249, Or.inl rfl⟩
theorem lf_X12_393 : LkF RX12 393 13 65 := ⟨_, rfl, by decide, Or.inl tb1253, Or.inl rfl⟩
theorem lf_X12_40 : LkF RX12 40 13 12 := ⟨_, rfl, by decide, Or.inl tb1200, Or.inl rfl⟩
theorem lf_X12_43 : LkF RX12 43 13 13 := ⟨_, rfl, by decide, Or.inl tb1201, Or.inl rfl⟩
theorem lf_X12_46 : LkF RX12 46 13 14 := ⟨_, rfl, by decide, Or.inl tb1202, Or.inl rfl⟩
theorem lf_X12_49 : LkF RX12 49 13 18 := ⟨_, rfl, by decide, Or.inl tb1206, Or.inl rfl⟩
theorem lf_X12_53 : LkF RX12 53 13 19 := ⟨_, rfl, by decide, Or.inl tb1207, Or.inl rfl⟩
theorem lf_X12_56 : LkF RX12 56 13 20 := ⟨_, rfl, by decide, Or.inl tb1208, Or.inl rfl⟩
theorem lf_X12_59 : LkF RX12 59 13 21 := ⟨_, rfl, by decide, Or.inl tb1209, Or.inl rfl⟩
theorem lf_X12_62 : LkF RX12 62 13 22 := ⟨_, rfl, by decide, Or.inl tb1210, Or.inl rfl⟩
theorem lf_X12_65 : LkF RX12 65 13 23 := ⟨_, rfl, by decide, Or.inl tb1211, Or.inl rfl⟩
theorem lf_X12_68 : LkF RX12 68 13 26 := ⟨_, rfl, by decide, Or.inl tb1214, Or.inl rfl⟩
theorem lf_X12_71 : LkF RX12 71 13 35 := ⟨_, rfl, by decide, Or.inl tb1223, Or.inl rfl⟩
theorem lf_X12_74 : LkF RX12 74 13 38 := ⟨_, rfl, by decide, Or.inl tb1226, Or.inl rfl⟩
theorem lf_X12_77 : LkF RX12 77 13 39 := ⟨_, rfl, by decide, Or.inl tb1227, Or.inl rfl⟩
theorem lf_X12_80 : LkF RX12 80 13 40 := ⟨_, rfl, by decide, Or.inl tb1228, Or.inl rfl⟩
theorem lf_X12_83 : LkF RX12 83 13 41 := ⟨_, rfl, by decide, Or.inl tb1229, Or.inl rfl⟩
theorem lf_X12_86 : LkF RX12 86 13 42 := ⟨_, rfl, by decide, Or.inl tb1230, Or.inl rfl⟩
theorem lf_X12_9 : LkF RX12 9 13 2 := ⟨_, rfl, by decide, Or.inl tb1190, Or.inl rfl⟩
theorem lf_X12_90 : LkF RX12 90 13 43 := ⟨_, rfl, by decide, Or.inl tb1231, Or.inl rfl⟩
theorem lf_X12_93 : LkF RX12 93 13 45 := ⟨_, rfl, by decide, Or.inl tb1233, Or.inl rfl⟩
theorem lf_X12_96 : LkF RX12 96 13 46 := ⟨_, rfl, by decide, Or.inl tb1234, Or.inl rfl⟩
theorem lf_X12_99 : LkF RX12 99 13 47 := ⟨_, rfl, by decide, Or.inl tb1235, Or.inl rfl⟩
theorem lf_X3_15 : LkF RX3 15 4 1 := ⟨_, rfl, by decide, Or.inl tb160, Or.inl rfl⟩
theorem lf_X3_9 : LkF RX3 9 4 0 := ⟨_, rfl, by decide, Or.inl tb159, Or.inl rfl⟩
theorem lf_X4_13 : LkF RX4 13 5 1 := ⟨_, rfl, by decide, Or.inl tb246, Or.inl rfl⟩
theorem lf_X4_19 : LkF RX4 19 5 3 := ⟨_, rfl, by decide, Or.inl tb250, Or.inl rfl⟩
theorem lf_X4_22 : LkF RX4 22 5 4 := ⟨_, rfl, by decide, Or.inl tb252, Or.inl rfl⟩
theorem lf_X6_18 : LkF RX6 18 7 2 := ⟨_, rfl, by decide, Or.inl tb644, Or.inl rfl⟩
theorem lf_X8_11 : LkF RX8 11 9 0 := ⟨_, rfl, by decide, Or.inl tb96, Or.inl rfl⟩
theorem lf_X8_15 : LkF RX8 15 9 1 := ⟨_, rfl, by decide, Or.inl tb97, Or.inl rfl⟩
theorem lf_X8_18 : LkF RX8 18 9 3 := ⟨_, rfl, by decide, Or.inl tb99, Or.inl rfl⟩
theorem lf_X8_21 : LkF RX8 21 9 4 := ⟨_, rfl, by decide, Or.inl tb100, Or.inl rfl⟩
theorem lf_X8_24 : LkF RX8 24 9 6 := ⟨_, rfl, by decide, Or.inl tb102, Or.inl rfl⟩
theorem lf_X8_27 : LkF RX8 27 9 7 := ⟨_, rfl, by decide, Or.inl tb103, Or.inl rfl⟩
theorem lf_X8_30 : LkF RX8 30 9 2 := ⟨_, rfl, by decide, Or.inl tb98, Or.inl rfl⟩
theorem lf_X8_34 : LkF RX8 34 9 5 := ⟨_, rfl, by decide, Or.inl tb101, Or.inl rfl⟩
theorem lf_X8_37 : LkF RX8 37 9 8 := ⟨_, rfl, by decide, Or.inl tb104, Or.inl rfl⟩
theorem lf_X9_11 : LkF RX9 11 10 0 := ⟨_, rfl, by decide, Or.inl tb72, Or.inl rfl⟩
theorem lf_X9_15 : LkF RX9 15 10 3 := ⟨_, rfl, by decide, Or.inl tb75, Or.inl rfl⟩
theorem lf_X9_19 : LkF RX9 19 10 1 := ⟨_, rfl, by decide, Or.inl tb73, Or.inl rfl⟩
theorem lf_X9_23 : LkF RX9 23 10 4 := ⟨_, rfl, by decide, Or.inl tb76, Or.inl rfl⟩
theorem lf_X9_32 : LkF RX9 32 10 2 := ⟨_, rfl, by decide, Or.inl tb74, Or.inl rfl⟩
theorem li_Jx4a65c_1 : LkI RJx4a65c 1 MJxc12de_init_da8c8 0 := ⟨lc_Jxc12de_init_da8c8, tb46, rfl, tb45⟩
theorem li_Jxc12de_1 : LkI RJxc12de 1 MJxa1e45_init_da8c8 0 := ⟨lc_Jxa1e45_init_da8c8, tb49, rfl, tb48⟩
theorem li_L_15 : LkI RL 15 MX11_init 0 := ⟨lc_X11_init, tb35, rfl, tb34⟩
theorem li_L_18 : LkI RL 18 MX12_init 0 := ⟨lc_X12_init, tb1185, rfl, tb1184⟩
theorem li_X11_105 : LkI RX11 105 MX4_init 4 := ⟨lc_X4_init, tb240, rfl, tb239⟩
theorem li_X11_130 : LkI RX11 130 MX1_init 7 := ⟨lc_X1_init, tb370, rfl, tb369⟩
theorem li_X11_155 : LkI RX11 155 MX7_init 3 := ⟨lc_X7_init, tb411, rfl, tb410⟩
theorem li_X11_194 : LkI RX11 194 MX6_init 3 := ⟨lc_X6_init, tb637, rfl, tb636⟩
theorem li_X11_290 : LkI RX11 290 MX0_init 5 := ⟨lc_X0_init, tb775, rfl, tb774⟩
theorem li_X11_321 : LkI RX11 321 MX2_init 4 := ⟨lc_X2_init, tb829, rfl, tb828⟩
theorem li_X11_36 : LkIN RX11 36 MX9_init 0 := ⟨lc_X9_init, tb69, rfl, ⟨_, tb68⟩⟩
theorem li_X11_404 : LkI RX11 404 MX5_init 2 := ⟨lc_X5_init, tb1031, rfl, tb1030⟩
theorem li_X11_43 : LkIN RX11 43 MX8_init 0 := ⟨lc_X8_init, tb93, rfl, ⟨_, tb92⟩⟩
theorem li_X11_50 : LkIN RX11 50 MX10_init 0 := ⟨lc_X10_init, tb127, rfl, ⟨_, tb126⟩⟩
theorem li_X11_77 : LkIN RX11 77 MX3_init 0 := ⟨lc_X3_init, tb156, rfl, ⟨_, tb155⟩⟩
theorem li_X11_9 : LkI RX11 9 MJx4a65c_init_da8c8 0 := ⟨lc_Jx4a65c_init_da8c8, tb43, rfl, tb42⟩
theorem lp_Jx4a65c_48 : LkP RJx4a65c 48 0 2 := ⟨_, rfl, by decide, tb55, Or.inl rfl, rfl⟩
theorem lp_Jx4a65c_63 : LkP RJx4a65c 63 0 0 := ⟨_, rfl, by decide, tb57, Or.inr tb58, rfl⟩
theorem lp_Jx4a65c_9 : LkP RJx4a65c 9 0 1 := ⟨_, rfl, by decide, tb54, Or.inl rfl, rfl⟩
theorem lp_X10_18 : LkP RX10 18 11 2 := ⟨_, rfl, by decide, tb132, Or.inl rfl, rfl⟩
theorem lp_X11_88 : LkP RX11 88 12 0 := ⟨_, rfl, by decide, tb167, Or.inl rfl, rfl⟩
theorem lp_X12_138 : LkP RX12 138 13 0 := ⟨_, rfl, by decide, tb1188, Or.inl rfl, rfl⟩
theorem lp_X12_142 : LkP RX12 142 13 1 := ⟨_, rfl, by decide, tb1189, Or.inl rfl, rfl⟩
theorem lp_X12_149 : LkP RX12 149 13 15 := ⟨_, rfl, by decide, tb1203, Or.inl rfl, rfl⟩
theorem lp_X12_152 : LkP RX12 152 13 16 := ⟨_, rfl, by decide, tb1204, Or.inl rfl, rfl⟩
theorem lp_X12_162 : LkP RX12 162 13 17 := ⟨_, rfl, by decide, tb1205, Or.inl rfl, rfl⟩
theorem lp_X12_178 : LkP RX12 178 13 24 := ⟨_, rfl, by decide, tb1212, Or.inl rfl, rfl⟩
theorem lp_X12_189 : LkP RX12 189 13 29 := ⟨_, rfl, by decide, tb1217, Or.inl rfl, rfl⟩
theorem lp_X12_192 : LkP RX12 192 13 28 := ⟨_, rfl, by decide, tb1216, Or.inl rfl, rfl⟩
theorem lp_X12_195 : LkP RX12 195 13 27 := ⟨_, rfl, by decide, tb1215, Or.inl rfl, rfl⟩
theorem lp_X12_198 : LkP RX12 198 13 30 := ⟨_, rfl, by decide, tb1218, Or.inl rfl, rfl⟩
theorem lp_X12_201 : LkP RX12 201 13 31 := ⟨_, rfl, by decide, tb1219, Or.inl rfl, rfl⟩
theorem lp_X12_272 : LkP RX12 272 13 34 := ⟨_, rfl, by decide, tb1222, Or.inl rfl, rfl⟩
theorem lp_X12_276 : LkP RX12 276 13 32 := ⟨_, rfl, by decide, tb1220, Or.inl rfl, rfl⟩
theorem lp_X12_279 : LkP RX12 279 13 33 := ⟨_, rfl, by decide, tb1221, Or.inl rfl, rfl⟩
theorem lp_X12_289 : LkP RX12 289 13 25 := ⟨_, rfl, by decide, tb1213, Or.inl rfl, rfl⟩
theorem lp_X12_317 : LkP RX12 317 13 36 := ⟨_, rfl, by decide, tb1224, Or.inl rfl, rfl⟩
theorem lp_X12_320 : LkP RX12 320 13 37 := ⟨_, rfl, by decide, tb1225, Or.inl rfl, rfl⟩
theorem lp_X12_329 : LkP RX12 329 13 44 := ⟨_, rfl, by decide, tb1232, Or.inl rfl, rfl⟩
theorem lp_X12_335 : LkP RX12 335 13 49 := ⟨_, rfl, by decide, tb1237, Or.inl rfl, rfl⟩
theorem lp_X12_353 : LkP RX12 353 13 52 := ⟨_, rfl, by decide, tb1240, Or.inl rfl, rfl⟩
theorem lp_X12_369 : LkP RX12 369 13 59 := ⟨_, rfl, by decide, tb1247, Or.inl rfl, rfl⟩
theorem lp_X12_372 : LkP RX12 372 13 60 := ⟨_, rfl, by decide, tb1248, Or.inl rfl, rfl⟩
theorem lp_X12_375 : LkP RX12 375 13 61 := ⟨_, rfl, by decide, tb1249, Or.inl rfl, rfl⟩
theorem lp_X12_393 : LkP RX12 393 13 65 := ⟨_, rfl, by decide, tb1253, Or.inl rfl, rfl⟩
theorem lp_X12_68 : LkP RX12 68 13 26 := ⟨_, rfl, by decide, tb1214, Or.inl rfl, rfl⟩
theorem lp_X3_15 : LkP RX3 15 4 1 := ⟨_, rfl, by decide, tb160, Or.inl rfl, rfl⟩
theorem lp_X8_30 : LkP RX8 30 9 2 := ⟨_, rfl, by decide, tb98, Or.inl rfl, rfl⟩
theorem lp_X8_34 : LkP RX8 34 9 5 := ⟨_, rfl, by decide, tb101, Or.inl rfl, rfl⟩
theorem lp_X8_37 : LkP RX8 37 9 8 := ⟨_, rfl, by decide, tb104, Or.inl rfl, rfl⟩
theorem lp_X9_19 : LkP RX9 19 10 1 := ⟨_, rfl, by decide, tb73, Or.inl rfl, rfl⟩
theorem lp_X9_23 : LkP RX9 23 10 4 := ⟨_, rfl, by decide, tb76, Or.inl rfl, rfl⟩
theorem lp_X9_32 : LkP RX9 32 10 2 := ⟨_, rfl, by decide, tb74, Or.inl rfl, rfl⟩
theorem lp_X0_13 : LkPF RX0 13 1 1 := ⟨_, rfl, by decide, tb779, rfl, rfl, rfl⟩
theorem lp_X0_16 : LkPF RX0 16 1 2 := ⟨_, rfl, by decide, tb780, rfl, rfl, rfl⟩
theorem lp_X0_19 : LkPF RX0 19 1 3 := ⟨_, rfl, by decide, tb781, rfl, rfl, rfl⟩
theorem lp_X0_23 : LkPF RX0 23 1 4 := ⟨_, rfl, by decide, tb783, rfl, rfl, rfl⟩
theorem lp_X0_7 : LkPF RX0 7 1 0 := ⟨_, rfl, by decide, tb778, rfl, rfl, rfl⟩
theorem lp_X1_13 : LkPF RX1 13 2 1 := ⟨_, rfl, by decide, tb375, rfl, rfl, rfl⟩
theorem lp_X1_17 : LkPF RX1 17 2 2 := ⟨_, rfl, by decide, tb377, rfl, rfl, rfl⟩
theorem lp_X1_20 : LkPF RX1 20 2 3 := ⟨_, rfl, by decide, tb379, rfl, rfl, rfl⟩
theorem lp_X1_23 : LkPF RX1 23 2 4 := ⟨_, rfl, by decide, tb381, rfl, rfl, rfl⟩
theorem lp_X1_26 : LkPF RX1 26 2 5 := ⟨_, rfl, by decide, tb383, rfl, rfl, rfl⟩
theorem lp_X1_29 : LkPF RX1 29 2 6 := ⟨_, rfl, by decide, tb385, rfl, rfl, rfl⟩
theorem lp_X1_7 : LkPF RX1 7 2 0 := ⟨_, rfl, by decide, tb373, rfl, rfl, rfl⟩
theorem lp_X10_15 : LkPF RX10 15 11 1 := ⟨_, rfl, by decide, tb131, rfl, rfl, rfl⟩
theorem lp_X10_9 : LkPF RX10 9 11 0 := ⟨_, rfl, by decide, tb130, rfl, rfl, rfl⟩
theorem lp_X11_10 : LkPF RX11 10 12 1 := ⟨_, rfl, by decide, tb168, rfl, rfl, rfl⟩
theorem lp_X11_16 : LkPF RX11 16 12 2 := ⟨_, rfl, by decide, tb169, rfl, rfl, rfl⟩
theorem lp_X11_19 : LkPF RX11 19 12 3 := ⟨_, rfl, by decide, tb170, rfl, rfl, rfl⟩
theorem lp_X11_22 : LkPF RX11 22 12 4 := ⟨_, rfl, by decide, tb171, rfl, rfl, rfl⟩
theorem lp_X11_25 : LkPF RX11 25 12 5 := ⟨_, rfl, by decide, tb172, rfl, rfl, rfl⟩
theorem lp_X11_28 : LkPF RX11 28 12 6 := ⟨_, rfl, by decide, tb173, rfl, rfl, rfl⟩
theorem lp_X11_31 : LkPF RX11 31 12 7 := ⟨_, rfl, by decide, tb174, rfl, rfl, rfl⟩
theorem lp_X11_37 : LkPF RX11 37 12 8 := ⟨_, rfl, by decide, tb175, rfl, rfl, rfl⟩
theorem lp_X11_44 : LkPF RX11 44 12 9 := ⟨_, rfl, by decide, tb176, rfl, rfl, rfl⟩
theorem lp_X11_51 : LkPF RX11 51 12 10 := ⟨_, rfl, by decide, tb177, rfl, rfl, rfl⟩
theorem lp_X11_57 : LkPF RX11 57 12 11 := ⟨_, rfl, by decide, tb178, rfl, rfl, rfl⟩
theorem lp_X11_60 : LkPF RX11 60 12 12 := ⟨_, rfl, by decide, tb179, rfl, rfl, rfl⟩
theorem lp_X11_71 : LkPF RX11 71 12 13 := ⟨_, rfl, by decide, tb180, rfl, rfl, rfl⟩
theorem lp_X11_78 : LkPF RX11 78 12 14 := ⟨_, rfl, by decide, tb181, rfl, rfl, rfl⟩
theorem lp_X11_82 : LkPF RX11 82 12 15 := ⟨_, rfl, by decide, tb182, rfl, rfl, rfl⟩
theorem lp_X11_85 : LkPF RX11 85 12 16 := ⟨_, rfl, by decide, tb183, rfl, rfl, rfl⟩
theorem lp_X12_102 : LkPF RX12 102 13 48 := ⟨_, rfl, by decide, tb1236, rfl, rfl, rfl⟩
theorem lp_X12_105 : LkPF RX12 105 13 50 := ⟨_, rfl, by decide, tb1238, rfl, rfl, rfl⟩
theorem lp_X12_108 : LkPF RX12 108 13 51 := ⟨_, rfl, by decide, tb1239, rfl, rfl, rfl⟩
theorem lp_X12_111 : LkPF RX12 111 13 53 := ⟨_, rfl, by decide, tb1241, rfl, rfl, rfl⟩
theorem lp_X12_114 : LkPF RX12 114 13 54 := ⟨_, rfl, by decide, tb1242, rfl, rfl, rfl⟩
theorem lp_X12_117 : LkPF RX12 117 13 55 := ⟨_, rfl, by decide, tb1243, rfl, rfl, rfl⟩
theorem lp_X12_120 : LkPF RX12 120 13 56 := ⟨_, rfl, by decide, tb1244, rfl, rfl, rfl⟩
theorem lp_X12_123 : LkPF RX12 123 13 57 := ⟨_, rfl, by decide, tb1245, rfl, rfl, rfl⟩
theorem lp_X12_126 : LkPF RX12 126 13 58 := ⟨_, rfl, by decide, tb1246, rfl, rfl, rfl⟩
theorem lp_X12_129 : LkPF RX12 129 13 62 := ⟨_, rfl, by decide, tb1250, rfl, rfl, rfl⟩
theorem lp_X12_13 : LkPF RX12 13 13 3 := ⟨_, rfl, by decide, tb1191, rfl, rfl, rfl⟩
theorem lp_X12_132 : LkPF RX12 132 13 63 := ⟨_, rfl, by decide, tb1251, rfl, rfl, rfl⟩
theorem lp_X12_135 : LkPF RX12 135 13 64 := ⟨_, rfl, by decide, tb1252, rfl, rfl, rfl⟩
theorem lp_X12_16 : LkPF RX12 16 13 4 := ⟨_, rfl, by decide, tb1192, rfl, rfl, rfl⟩
theorem lp_X12_19 : LkPF RX12 19 13 5 := ⟨_, rfl, by decide, tb1193, rfl, rfl, rfl⟩
theorem lp_X12_22 : LkPF RX12 22 13 6 := ⟨_, rfl, by decide, tb1194, rfl, rfl, rfl⟩
theorem lp_X12_25 : LkPF RX12 25 13 7 := ⟨_, rfl, by decide, tb1195, rfl, rfl, rfl⟩
theorem lp_X12_28 : LkPF RX12 28 13 8 := ⟨_, rfl, by decide, tb1196, rfl, rfl, rfl⟩
theorem lp_X12_31 : LkPF RX12 31 13 9 := ⟨_, rfl, by decide, tb1197, rfl, rfl, rfl⟩
theorem lp_X12_34 : LkPF RX12 34 13 10 := ⟨_, rfl, by decide, tb1198, rfl, rfl, rfl⟩
theorem lp_X12_37 : LkPF RX12 37 13 11 := ⟨_, rfl, by decide, tb1199, rfl, rfl, rfl⟩
theorem lp_X12_40 : LkPF RX12 40 13 12 := ⟨_, rfl, by decide, tb1200, rfl, rfl, rfl⟩
theorem lp_X12_43 : LkPF RX12 43 13 13 := ⟨_, rfl, by decide, tb1201, rfl, rfl, rfl⟩
theorem lp_X12_46 : LkPF RX12 46 13 14 := ⟨_, rfl, by decide, tb1202, rfl, rfl, rfl⟩
theorem lp_X12_49 : LkPF RX12 49 13 18 := ⟨_, rfl, by decide, tb1206, rfl, rfl, rfl⟩
theorem lp_X12_53 : LkPF RX12 53 13 19 := ⟨_, rfl, by decide, tb1207, rfl, rfl, rfl⟩
theorem lp_X12_56 : LkPF RX12 56 13 20 := ⟨_, rfl, by decide, tb1208, rfl, rfl, rfl⟩
theorem lp_X12_59 : LkPF RX12 59 13 21 := ⟨_, rfl, by decide, tb1209, rfl, rfl, rfl⟩
theorem lp_X12_62 : LkPF RX12 62 13 22 := ⟨_, rfl, by decide, tb1210, rfl, rfl, rfl⟩
theorem lp_X12_65 : LkPF RX12 65 13 23 := ⟨_, rfl, by decide, tb1211, rfl, rfl, rfl⟩
theorem lp_X12_71 : LkPF RX12 71 13 35 := ⟨_, rfl, by decide, tb1223, rfl, rfl, rfl⟩
theorem lp_X12_74 : LkPF RX12 74 13 38 := ⟨_, rfl, by decide, tb1226, rfl, rfl, rfl⟩
theorem lp_X12_77 : LkPF RX12 77 13 39 := ⟨_, rfl, by decide, tb1227, rfl, rfl, rfl⟩
theorem lp_X12_80 : LkPF RX12 80 13 40 := ⟨_, rfl, by decide, tb1228, rfl, rfl, rfl⟩
theorem lp_X12_83 : LkPF RX12 83 13 41 := ⟨_, rfl, by decide, tb1229, rfl, rfl, rfl⟩
theorem lp_X12_86 : LkPF RX12 86 13 42 := ⟨_, rfl, by decide, tb1230, rfl, rfl, rfl⟩
theorem lp_X12_9 : LkPF RX12 9 13 2 := ⟨_, rfl, by decide, tb1190, rfl, rfl, rfl⟩
theorem lp_X12_90 : LkPF RX12 90 13 43 := ⟨_, rfl, by decide, tb1231, rfl, rfl, rfl⟩
theorem lp_X12_93 : LkPF RX12 93 13 45 := ⟨_, rfl, by decide, tb1233, rfl, rfl, rfl⟩
theorem lp_X12_96 : LkPF RX12 96 13 46 := ⟨_, rfl, by decide, tb1234, rfl, rfl, rfl⟩
theorem lp_X12_99 : LkPF RX12 99 13 47 := ⟨_, rfl, by decide, tb1235, rfl, rfl, rfl⟩
theorem lp_X2_13 : LkPF RX2 13 3 1 := ⟨_, rfl, by decide, tb834, rfl, rfl, rfl⟩
theorem lp_X2_16 : LkPF RX2 16 3 2 := ⟨_, rfl, by decide, tb836, rfl, rfl, rfl⟩
theorem lp_X2_19 : LkPF RX2 19 3 3 := ⟨_, rfl, by decide, tb838, rfl, rfl, rfl⟩
theorem lp_X2_7 : LkPF RX2 7 3 0 := ⟨_, rfl, by decide, tb832, rfl, rfl, rfl⟩
theorem lp_X3_9 : LkPF RX3 9 4 0 := ⟨_, rfl, by decide, tb159, rfl, rfl, rfl⟩
theorem lp_X4_13 : LkPF RX4 13 5 1 := ⟨_, rfl, by decide, tb246, rfl, rfl, rfl⟩
theorem lp_X4_16 : LkPF RX4 16 5 2 := ⟨_, rfl, by decide, tb248, rfl, rfl, rfl⟩
theorem lp_X4_19 : LkPF RX4 19 5 3 := ⟨_, rfl, by decide, tb250, rfl, rfl, rfl⟩
theorem lp_X4_22 : LkPF RX4 22 5 4 := ⟨_, rfl, by decide, tb252, rfl, rfl, rfl⟩
theorem lp_X4_7 : LkPF RX4 7 5 0 := ⟨_, rfl, by decide, tb243, rfl, rfl, rfl⟩
theorem lp_X5_13 : LkPF RX5 13 6 1 := ⟨_, rfl, by decide, tb1036, rfl, rfl, rfl⟩
theorem lp_X5_7 : LkPF RX5 7 6 0 := ⟨_, rfl, by decide, tb1034, rfl, rfl, rfl⟩
theorem lp_X6_15 : LkPF RX6 15 7 1 := ⟨_, rfl, by decide, tb642, rfl, rfl, rfl⟩
theorem lp_X6_18 : LkPF RX6 18 7 2 := ⟨_, rfl, by decide, tb644, rfl, rfl, rfl⟩
theorem lp_X6_9 : LkPF RX6 9 7 0 := ⟨_, rfl, by decide, tb640, rfl, rfl, rfl⟩
theorem lp_X7_13 : LkPF RX7 13 8 1 := ⟨_, rfl, by decide, tb416, rfl, rfl, rfl⟩
theorem lp_X7_16 : LkPF RX7 16 8 2 := ⟨_, rfl, by decide, tb418, rfl, rfl, rfl⟩
theorem lp_X7_7 : LkPF RX7 7 8 0 := ⟨_, rfl, by decide, tb414, rfl, rfl, rfl⟩
theorem lp_X8_11 : LkPF RX8 11 9 0 := ⟨_, rfl, by decide, tb96, rfl, rfl, rfl⟩
theorem lp_X8_15 : LkPF RX8 15 9 1 := ⟨_, rfl, by decide, tb97, rfl, rfl, rfl⟩
theorem lp_X8_18 : LkPF RX8 18 9 3 := ⟨_, rfl, by decide, tb99, rfl, rfl, rfl⟩
theorem lp_X8_21 : LkPF RX8 21 9 4 := ⟨_, rfl, by decide, tb100, rfl, rfl, rfl⟩
theorem lp_X8_24 : LkPF RX8 24 9 6 := ⟨_, rfl, by decide, tb102, rfl, rfl, rfl⟩
theorem lp_X8_27 : LkPF RX8 27 9 7 := ⟨_, rfl, by decide, tb103, rfl, rfl, rfl⟩
theorem lp_X9_11 : LkPF RX9 11 10 0 := ⟨_, rfl, by decide, tb72, rfl, rfl, rfl⟩
theorem lp_X9_15 : LkPF RX9 15 10 3 := ⟨_, rfl, by decide, tb75, rfl, rfl, rfl⟩
theorem ls_J0_1062 : LkS RJ0 1062 MJ3_checkFromToIndex_8c36e 4 := ⟨lc_J3_checkFromToIndex_8c36e, tb520, tb519⟩
theorem ls_J0_637 : LkS RJ0 637 MJ1_indexOf_4cfef 4 := ⟨lc_J1_indexOf_4cfef, tb489, tb488⟩
theorem ls_J0_640 : LkS RJ0 640 MJ2_indexOf_4cfef 4 := ⟨lc_J2_indexOf_4cfef, tb500, tb499⟩
theorem ls_J1_38 : LkS RJ1 38 MJ9_min_7cf53 2 := ⟨lc_J9_min_7cf53, tb319, tb495⟩
theorem ls_J1_88 : LkS RJ1 88 MJ1_canEncode_9a6ad 1 := ⟨lc_J1_canEncode_9a6ad, tb492, tb491⟩
theorem ls_J1_92 : LkS RJ1 92 MJ9_max_7cf53 2 := ⟨lc_J9_max_7cf53, tb284, tb494⟩
theorem ls_J1_95 : LkS RJ1 95 MJ1_indexOfChar_4cfef 4 := ⟨lc_J1_indexOfChar_4cfef, tb497, tb496⟩
theorem ls_J15_105 : LkS RJ15 105 MJ3_checkIndex_8e157 3 := ⟨lc_J3_checkIndex_8e157, tb360, tb359⟩
theorem ls_J2_157 : LkS RJ2 157 MJ11_highSurrogate_5068e 1 := ⟨lc_J11_highSurrogate_5068e, tb541, tb540⟩
theorem ls_J2_161 : LkS RJ2 161 MJ11_lowSurrogate_5068e 1 := ⟨lc_J11_lowSurrogate_5068e, tb545, tb544⟩
theorem ls_J2_164 : LkS RJ2 164 MJ11_isValidCodePoint_9a6ad 1 := ⟨lc_J11_isValidCodePoint_9a6ad, tb538, tb537⟩
theorem ls_J2_183 : LkS RJ2 183 MJ9_min_7cf53 2 := ⟨lc_J9_min_7cf53, tb319, tb503⟩
theorem ls_J2_224 : LkS RJ2 224 MJ9_max_7cf53 2 := ⟨lc_J9_max_7cf53, tb284, tb502⟩
theorem ls_J2_228 : LkS RJ2 228 MJ2_indexOfChar_4cfef 4 := ⟨lc_J2_indexOfChar_4cfef, tb506, tb505⟩
theorem ls_J2_232 : LkS RJ2 232 MJ2_indexOfSupplementary_4cfef 4 := ⟨lc_J2_indexOfSupplementary_4cfef, tb535, tb534⟩
theorem ls_J2_241 : LkS RJ2 241 MJ0_checkBoundsBeginEnd_23922 3 := ⟨lc_J0_checkBoundsBeginEnd_23922, tb515, tb514⟩
theorem ls_J2_244 : LkS RJ2 244 MJ2_indexOfCharUnsafe_4cfef 4 := ⟨lc_J2_indexOfCharUnsafe_4cfef, tb523, tb522⟩
theorem ls_J2_48 : LkS RJ2 48 MJ2_length_9d52b 1 := ⟨lc_J2_length_9d52b, tb512, tb511⟩
theorem ls_J2_71 : LkS RJ2 71 MJ2_getChar_3b067 2 := ⟨lc_J2_getChar_3b067, tb526, tb525⟩
theorem ls_J2_96 : LkS RJ2 96 MJ2_checkBoundsBeginEnd_d044e 3 := ⟨lc_J2_checkBoundsBeginEnd_d044e, tb509, tb508⟩
theorem ls_J7_300 : LkS RJ7 300 MJ7_copyOf_6403c 3 := ⟨lc_J7_copyOf_6403c, tb313, tb312⟩
theorem ls_J7_304 : LkS RJ7 304 MJ9_min_7cf53 2 := ⟨lc_J9_min_7cf53, tb319, tb318⟩
theorem ls_J8_194 : LkS RJ8 194 MJ9_max_7cf53 2 := ⟨lc_J9_max_7cf53, tb284, tb283⟩
theorem ls_J8_201 : LkS RJ8 201 MJ8_hugeLength_7cf53 2 := ⟨lc_J8_hugeLength_7cf53, tb288, tb287⟩
theorem ls_Jx4a65c_118 : LkS RJx4a65c 118 MJ15_checkIndex_7cf53 2 := ⟨lc_J15_checkIndex_7cf53, tb357, tb356⟩
theorem ls_Jx4a65c_66 : LkS RJx4a65c 66 MJ7_copyOf_1904c 2 := ⟨lc_J7_copyOf_1904c, tb291, tb290⟩
theorem ls_Jx4a65c_73 : LkS RJx4a65c 73 MJ8_newLength_cabcc 3 := ⟨lc_J8_newLength_cabcc, tb281, tb280⟩
theorem ls_Jx4a65c_79 : LkS RJx4a65c 79 MJ9_max_7cf53 2 := ⟨lc_J9_max_7cf53, tb284, tb324⟩
theorem ls_X10_30 : LkSN RX10 30 MX11_isWithin 3 := ⟨lc_X11_isWithin, tb224, ⟨_, tb932⟩⟩
theorem ls_X10_34 : LkS RX10 34 MJ9_abs_067f4 1 := ⟨lc_J9_abs_067f4, tb926, tb925⟩
theorem ls_X11_115 : LkS RX11 115 MX11_isSort 1 := ⟨lc_X11_isSort, tb335, tb334⟩
theorem ls_X11_133 : LkS RX11 133 MX11_isSaying 1 := ⟨lc_X11_isSaying, tb342, tb341⟩
theorem ls_X11_150 : LkS RX11 150 MX11_isDay 1 := ⟨lc_X11_isDay, tb407, tb406⟩
theorem ls_X11_174 : LkS RX11 174 MX11_bytesIn 1 := ⟨lc_X11_bytesIn, tb440, tb439⟩
theorem ls_X11_216 : LkS RX11 216 MJ7_fill_53178 2 := ⟨lc_J7_fill_53178, tb669, tb668⟩
theorem ls_X11_235 : LkS RX11 235 MX11_isRank 1 := ⟨lc_X11_isRank, tb721, tb720⟩
theorem ls_X11_274 : LkS RX11 274 MJ9_min_7cf53 2 := ⟨lc_J9_min_7cf53, tb319, tb743⟩
theorem ls_X11_279 : LkS RX11 279 MJ9_max_7cf53 2 := ⟨lc_J9_max_7cf53, tb284, tb744⟩
theorem ls_X11_285 : LkS RX11 285 MJ9_abs_0f7a4 1 := ⟨lc_J9_abs_0f7a4, tb758, tb757⟩
theorem ls_X11_306 : LkS RX11 306 MX11_wayPart 4 := ⟨lc_X11_wayPart, tb813, tb812⟩
theorem ls_X11_316 : LkS RX11 316 MX11_isReader 1 := ⟨lc_X11_isReader, tb824, tb823⟩
theorem ls_X11_336 : LkS RX11 336 MX11_share 3 := ⟨lc_X11_share, tb867, tb866⟩
theorem ls_X11_370 : LkS RX11 370 MX11_isHour 1 := ⟨lc_X11_isHour, tb954, tb953⟩
theorem ls_X11_406 : LkS RX11 406 MX11_isCoin 1 := ⟨lc_X11_isCoin, tb1048, tb1047⟩
theorem ls_X11_415 : LkS RX11 415 MX11_hasTheFirstUnlike 2 := ⟨lc_X11_hasTheFirstUnlike, tb1065, tb1064⟩
theorem ls_X11_424 : LkS RX11 424 MJ6_bitCount_0f7a4 1 := ⟨lc_J6_bitCount_0f7a4, tb1059, tb1058⟩
theorem ls_X11_92 : LkS RX11 92 MX11_isWithin 3 := ⟨lc_X11_isWithin, tb224, tb223⟩
theorem ls_X11_96 : LkS RX11 96 MX11_isPlace 1 := ⟨lc_X11_isPlace, tb231, tb230⟩
theorem ls_X12_145 : LkS RX12 145 MX12_isIn 3 := ⟨lc_X12_isIn, tb1397, tb1396⟩
theorem ls_X12_168 : LkS RX12 168 MX12_isSort 1 := ⟨lc_X12_isSort, tb1412, tb1411⟩
theorem ls_X12_175 : LkS RX12 175 MX12_isDay 1 := ⟨lc_X12_isDay, tb1431, tb1430⟩
theorem ls_X12_181 : LkS RX12 181 MX12_bytesIn 1 := ⟨lc_X12_bytesIn, tb1446, tb1445⟩
theorem ls_X12_216 : LkS RX12 216 MJ9_min_f86c9 2 := ⟨lc_J9_min_f86c9, tb703, tb1520⟩
theorem ls_X12_222 : LkS RX12 222 MJ9_max_f86c9 2 := ⟨lc_J9_max_f86c9, tb706, tb1521⟩
theorem ls_X12_247 : LkS RX12 247 MX12_bound 1 := ⟨lc_X12_bound, tb1516, tb1515⟩
theorem ls_X12_254 : LkS RX12 254 MX12_isSign 1 := ⟨lc_X12_isSign, tb1523, tb1522⟩
theorem ls_X12_313 : LkS RX12 313 MJ9_min_7cf53 2 := ⟨lc_J9_min_7cf53, tb319, tb1577⟩
theorem ls_X12_315 : LkS RX12 315 MJ9_max_7cf53 2 := ⟨lc_J9_max_7cf53, tb284, tb1578⟩
theorem ls_X12_323 : LkS RX12 323 MJ9_abs_0f7a4 1 := ⟨lc_J9_abs_0f7a4, tb758, tb1579⟩
theorem ls_X12_338 : LkS RX12 338 MX12_isReader 1 := ⟨lc_X12_isReader, tb1609, tb1608⟩
theorem ls_X12_356 : LkS RX12 356 MJ9_abs_067f4 1 := ⟨lc_J9_abs_067f4, tb926, tb1661⟩
theorem ls_X12_388 : LkS RX12 388 MJ6_bitCount_0f7a4 1 := ⟨lc_J6_bitCount_0f7a4, tb1059, tb1710⟩
theorem ls_X6_39 : LkS RX6 39 MX6_work 3 := ⟨lc_X6_work, tb690, tb689⟩
theorem ls_X6_49 : LkS RX6 49 MX6_joined 3 := ⟨lc_X6_joined, tb698, tb697⟩
theorem ls_X6_57 : LkS RX6 57 MJ9_min_f86c9 2 := ⟨lc_J9_min_f86c9, tb703, tb702⟩
theorem ls_X6_63 : LkS RX6 63 MJ9_max_f86c9 2 := ⟨lc_J9_max_f86c9, tb706, tb705⟩
theorem ls_X8_40 : LkSN RX8 40 MX11_isWithin 3 := ⟨lc_X11_isWithin, tb224, ⟨_, tb972⟩⟩
theorem ls_X8_47 : LkS RX8 47 MX8_tryFrom 3 := ⟨lc_X8_tryFrom, tb965, tb964⟩
theorem ls_X8_64 : LkS RX8 64 MJ9_abs_0f7a4 1 := ⟨lc_J9_abs_0f7a4, tb758, tb977⟩
theorem ls_X9_119 : LkSN RX9 119 MX11_isWithin 3 := ⟨lc_X11_isWithin, tb224, ⟨_, tb596⟩⟩
theorem ls_X9_26 : LkS RX9 26 MJ7_copyOf_59c91 2 := ⟨lc_J7_copyOf_59c91, tb627, tb626⟩
theorem lv_J0_335 : LkV RJ0 335 MJ0_coder_7d493 0 := ⟨lc_J0_coder_7d493, tb148, tb149, tb147⟩
theorem lv_J0_492 : LkV RJ0 492 MJ0_isLatin1_aae02 0 := ⟨lc_J0_isLatin1_aae02, tb484, tb485, tb483⟩
theorem lv_J0_505 : LkV RJ0 505 MJ0_length_8abf5 0 := ⟨lc_J0_length_8abf5, tb144, tb145, tb487⟩
theorem lv_J0_633 : LkV RJ0 633 MJ0_indexOf_7cf53 2 := ⟨lc_J0_indexOf_7cf53, tb480, tb481, tb479⟩
theorem lv_Jx4a65c_123 : LkV RJx4a65c 123 MJx4a65c_elementData_915e3 1 := ⟨lc_Jx4a65c_elementData_915e3, tb363, tb364, tb362⟩
theorem lv_Jx4a65c_129 : LkV RJx4a65c 129 MJx4a65c_grow_d5877 0 := ⟨lc_Jx4a65c_grow_d5877, tb274, sl_Jx4a65c_grow_d5877, tb272⟩
theorem lv_Jx4a65c_131 : LkV RJx4a65c 131 MJx4a65c_add_72be8 3 := ⟨lc_Jx4a65c_add_72be8, tb270, sl_Jx4a65c_add_72be8, tb268⟩
theorem lv_Jx4a65c_69 : LkV RJx4a65c 69 MJx4a65c_grow_92f84 1 := ⟨lc_Jx4a65c_grow_92f84, tb278, sl_Jx4a65c_grow_92f84, tb276⟩
theorem lv_L_100 : LkV RL 100 MX12_truth 2 := ⟨lc_X12_truth, tb1589, tb1590, tb1588⟩
theorem lv_L_101 : LkV RL 101 MX11_way 4 := ⟨lc_X11_way, tb805, tb806, tb804⟩
theorem lv_L_104 : LkV RL 104 MX12_way 4 := ⟨lc_X12_way, tb1593, tb1594, tb1592⟩
theorem lv_L_105 : LkV RL 105 MX11_bearers 2 := ⟨lc_X11_bearers, tb816, tb817, tb815⟩
theorem lv_L_108 : LkV RL 108 MX12_bearers 2 := ⟨lc_X12_bearers, tb1601, tb1602, tb1600⟩
theorem lv_L_109 : LkV RL 109 MX11_mark 3 := ⟨lc_X11_mark, tb820, tb821, tb819⟩
theorem lv_L_113 : LkV RL 113 MX12_mark 3 := ⟨lc_X12_mark, tb1605, tb1606, tb1604⟩
theorem lv_L_114 : LkV RL 114 MX11_marked 3 := ⟨lc_X11_marked, tb850, tb851, tb849⟩
theorem lv_L_117 : LkV RL 117 MX12_marked 3 := ⟨lc_X12_marked, tb1612, tb1613, tb1611⟩
theorem lv_L_118 : LkV RL 118 MX11_agree 4 := ⟨lc_X11_agree, tb858, tb859, tb857⟩
theorem lv_L_121 : LkV RL 121 MX12_agree 4 := ⟨lc_X12_agree, tb1620, tb1621, tb1619⟩
theorem lv_L_122 : LkV RL 122 MX11_habit 2 := ⟨lc_X11_habit, tb862, tb863, tb861⟩
theorem lv_L_125 : LkV RL 125 MX12_habit 2 := ⟨lc_X12_habit, tb1624, tb1625, tb1623⟩
theorem lv_L_126 : LkV RL 126 MX11_held 2 := ⟨lc_X11_held, tb870, tb871, tb869⟩
theorem lv_L_129 : LkV RL 129 MX12_held 2 := ⟨lc_X12_held, tb1629, tb1630, tb1628⟩
theorem lv_L_130 : LkV RL 130 MX11_land 3 := ⟨lc_X11_land, tb878, tb879, tb877⟩
theorem lv_L_133 : LkV RL 133 MX12_land 3 := ⟨lc_X12_land, tb1633, tb1634, tb1632⟩
theorem lv_L_134 : LkV RL 134 MX11_span 4 := ⟨lc_X11_span, tb882, tb883, tb881⟩
theorem lv_L_137 : LkV RL 137 MX12_span 4 := ⟨lc_X12_span, tb1637, tb1638, tb1636⟩
theorem lv_L_138 : LkV RL 138 MX11_mood 3 := ⟨lc_X11_mood, tb898, tb899, tb897⟩
theorem lv_L_141 : LkV RL 141 MX12_mood 3 := ⟨lc_X12_mood, tb1650, tb1651, tb1649⟩
theorem lv_L_142 : LkV RL 142 MX11_turn 4 := ⟨lc_X11_turn, tb902, tb903, tb901⟩
theorem lv_L_145 : LkV RL 145 MX12_turn 4 := ⟨lc_X12_turn, tb1654, tb1655, tb1653⟩
theorem lv_L_146 : LkV RL 146 MX11_last 2 := ⟨lc_X11_last, tb938, tb939, tb937⟩
theorem lv_L_149 : LkV RL 149 MX12_last 2 := ⟨lc_X12_last, tb1663, tb1664, tb1662⟩
theorem lv_L_150 : LkV RL 150 MX11_lean 2 := ⟨lc_X11_lean, tb946, tb947, tb945⟩
theorem lv_L_153 : LkV RL 153 MX12_lean 2 := ⟨lc_X12_lean, tb1671, tb1672, tb1670⟩
theorem lv_L_154 : LkV RL 154 MX11_watcher 2 := ⟨lc_X11_watcher, tb950, tb951, tb949⟩
theorem lv_L_157 : LkV RL 157 MX12_watcher 2 := ⟨lc_X12_watcher, tb1679, tb1680, tb1678⟩
theorem lv_L_158 : LkV RL 158 MX11_want 2 := ⟨lc_X11_want, tb979, tb980, tb978⟩
theorem lv_L_161 : LkV RL 161 MX12_want 2 := ⟨lc_X12_want, tb1683, tb1684, tb1682⟩
theorem lv_L_162 : LkV RL 162 MX11_table 1 := ⟨lc_X11_table, tb987, tb988, tb986⟩
theorem lv_L_165 : LkV RL 165 MX12_table 1 := ⟨lc_X12_table, tb1687, tb1688, tb1686⟩
theorem lv_L_166 : LkV RL 166 MX11_alike 2 := ⟨lc_X11_alike, tb1003, tb1004, tb1002⟩
theorem lv_L_169 : LkV RL 169 MX12_alike 2 := ⟨lc_X12_alike, tb1699, tb1700, tb1698⟩
theorem lv_L_170 : LkV RL 170 MX11_hide 1 := ⟨lc_X11_hide, tb1015, tb1016, tb1014⟩
theorem lv_L_173 : LkV RL 173 MX12_hide 1 := ⟨lc_X12_hide, tb1707, tb1708, tb1706⟩
theorem lv_L_174 : LkV RL 174 MX11_question 2 := ⟨lc_X11_question, tb1025, tb1026, tb1024⟩
theorem lv_L_177 : LkV RL 177 MX12_question 2 := ⟨lc_X12_question, tb1712, tb1713, tb1711⟩
theorem lv_L_178 : LkV RL 178 MX11_buy 1 := ⟨lc_X11_buy, tb1044, tb1045, tb1043⟩
theorem lv_L_181 : LkV RL 181 MX12_buy 1 := ⟨lc_X12_buy, tb1716, tb1717, tb1715⟩
theorem lv_L_182 : LkV RL 182 MX11_judge 2 := ⟨lc_X11_judge, tb1068, tb1069, tb1067⟩
theorem lv_L_185 : LkV RL 185 MX12_judge 2 := ⟨lc_X12_judge, tb1728, tb1729, tb1727⟩
theorem lv_L_188 : LkV RL 188 MX11_lot 3 := ⟨lc_X11_lot, tb1072, tb1073, tb1071⟩
theorem lv_L_19 : LkV RL 19 MX11_days 1 := ⟨lc_X11_days, tb220, tb221, tb219⟩
theorem lv_L_192 : LkV RL 192 MX12_lot 3 := ⟨lc_X12_lot, tb1732, tb1733, tb1731⟩
theorem lv_L_193 : LkV RL 193 MX11_beside 3 := ⟨lc_X11_beside, tb1086, tb1087, tb1085⟩
theorem lv_L_196 : LkV RL 196 MX12_beside 3 := ⟨lc_X12_beside, tb1742, tb1743, tb1741⟩
theorem lv_L_197 : LkV RL 197 MX11_count 1 := ⟨lc_X11_count, tb1094, tb1095, tb1093⟩
theorem lv_L_200 : LkV RL 200 MX12_count 1 := ⟨lc_X12_count, tb1746, tb1747, tb1745⟩
theorem lv_L_23 : LkV RL 23 MX12_days 1 := ⟨lc_X12_days, tb1393, tb1394, tb1392⟩
theorem lv_L_24 : LkV RL 24 MX11_person 3 := ⟨lc_X11_person, tb227, tb228, tb226⟩
theorem lv_L_28 : LkV RL 28 MX12_person 3 := ⟨lc_X12_person, tb1400, tb1401, tb1399⟩
theorem lv_L_29 : LkV RL 29 MX11_line 6 := ⟨lc_X11_line, tb327, tb328, tb326⟩
theorem lv_L_33 : LkV RL 33 MX12_line 6 := ⟨lc_X12_line, tb1404, tb1405, tb1403⟩
theorem lv_L_39 : LkV RL 39 MX12_told 2 := ⟨lc_X12_told, tb1419, tb1420, tb1418⟩
theorem lv_L_40 : LkV RL 40 MX12_thrown 0 := ⟨lc_X12_thrown, tb1389, tb1390, tb1388⟩
theorem lv_L_44 : LkV RL 44 MX11_stop 2 := ⟨lc_X11_stop, tb403, tb404, tb402⟩
theorem lv_L_48 : LkV RL 48 MX12_stop 2 := ⟨lc_X12_stop, tb1427, tb1428, tb1426⟩
theorem lv_L_49 : LkV RL 49 MX11_stopped 2 := ⟨lc_X11_stopped, tb428, tb429, tb427⟩
theorem lv_L_52 : LkV RL 52 MX12_stopped 2 := ⟨lc_X12_stopped, tb1434, tb1435, tb1433⟩
theorem lv_L_53 : LkV RL 53 MX11_feed 5 := ⟨lc_X11_feed, tb436, tb437, tb435⟩
theorem lv_L_57 : LkV RL 57 MX12_feed 5 := ⟨lc_X12_feed, tb1442, tb1443, tb1441⟩
theorem lv_L_58 : LkV RL 58 MX11_end 1 := ⟨lc_X11_end, tb451, tb452, tb450⟩
theorem lv_L_62 : LkV RL 62 MX12_end 1 := ⟨lc_X12_end, tb1453, tb1454, tb1452⟩
theorem lv_L_63 : LkV RL 63 MX11_fault 0 := ⟨lc_X11_fault, tb459, tb460, tb458⟩
theorem lv_L_66 : LkV RL 66 MX12_fault 0 := ⟨lc_X12_fault, tb1457, tb1458, tb1456⟩
theorem lv_L_67 : LkV RL 67 MX11_rule 1 := ⟨lc_X11_rule, tb617, tb618, tb616⟩
theorem lv_L_7 : LkV RL 7 MX11_told 2 := ⟨lc_X11_told, tb1110, tb1111, tb1109⟩
theorem lv_L_70 : LkV RL 70 MX12_rule 1 := ⟨lc_X12_rule, tb1530, tb1531, tb1529⟩
theorem lv_L_71 : LkV RL 71 MX11_force 2 := ⟨lc_X11_force, tb653, tb654, tb652⟩
theorem lv_L_74 : LkV RL 74 MX12_force 2 := ⟨lc_X12_force, tb1534, tb1535, tb1533⟩
theorem lv_L_75 : LkV RL 75 MX11_asked 4 := ⟨lc_X11_asked, tb661, tb662, tb660⟩
theorem lv_L_79 : LkV RL 79 MX12_asked 4 := ⟨lc_X12_asked, tb1542, tb1543, tb1541⟩
theorem lv_L_80 : LkV RL 80 MX11_shown 4 := ⟨lc_X11_shown, tb709, tb710, tb708⟩
theorem lv_L_83 : LkV RL 83 MX12_shown 4 := ⟨lc_X12_shown, tb1558, tb1559, tb1557⟩
theorem lv_L_84 : LkV RL 84 MX11_digest 5 := ⟨lc_X11_digest, tb728, tb729, tb727⟩
theorem lv_L_87 : LkV RL 87 MX12_digest 5 := ⟨lc_X12_digest, tb1570, tb1571, tb1569⟩
theorem lv_L_88 : LkV RL 88 MX11_left 4 := ⟨lc_X11_left, tb761, tb762, tb760⟩
theorem lv_L_91 : LkV RL 91 MX12_left 4 := ⟨lc_X12_left, tb1581, tb1582, tb1580⟩
theorem lv_L_92 : LkV RL 92 MX11_happen 4 := ⟨lc_X11_happen, tb769, tb770, tb768⟩
theorem lv_L_96 : LkV RL 96 MX12_happen 4 := ⟨lc_X12_happen, tb1585, tb1586, tb1584⟩
theorem lv_L_97 : LkV RL 97 MX11_truth 2 := ⟨lc_X11_truth, tb797, tb798, tb796⟩
theorem lv_X10_22 : LkV RX10 22 MX10_sumAhead 1 := ⟨lc_X10_sumAhead, tb919, sl_X10_sumAhead, tb917⟩
theorem lv_X10_26 : LkV RX10 26 MX10_distance 3 := ⟨lc_X10_distance, tb923, sl_X10_distance, tb921⟩
theorem lv_X11_100 : LkV RX11 100 MJx4a65c_size_8abf5 0 := ⟨lc_Jx4a65c_size_8abf5, tb234, tb235, tb233⟩
theorem lv_X11_108 : LkV RX11 108 MJx4a65c_add_9ea2d 1 := ⟨lc_Jx4a65c_add_9ea2d, tb265, tb266, tb264⟩
theorem lv_X11_112 : LkV RX11 112 MX11_isPerson 1 := ⟨lc_X11_isPerson, tb332, sl_X11_isPerson, tb330⟩
theorem lv_X11_118 : LkV RX11 118 MX11_isHearing 3 := ⟨lc_X11_isHearing, tb339, sl_X11_isHearing, tb337⟩
theorem lv_X11_121 : LkV RX11 121 MX11_hasStoppedBy 3 := ⟨lc_X11_hasStoppedBy, tb346, sl_X11_hasStoppedBy, tb344⟩
theorem lv_X11_126 : LkV RX11 126 MJx4a65c_get_915e3 1 := ⟨lc_Jx4a65c_get_915e3, tb353, tb354, tb352⟩
theorem lv_X11_136 : LkV RX11 136 MX11_isLine 1 := ⟨lc_X11_isLine, tb718, sl_X11_isLine, tb716⟩
theorem lv_X11_146 : LkV RX11 146 MX1_part 1 := ⟨lc_X1_part, tb1179, tb1180, tb1178⟩
theorem lv_X11_158 : LkV RX11 158 MX11_isKnownDay 1 := ⟨lc_X11_isKnownDay, tb433, sl_X11_isKnownDay, tb431⟩
theorem lv_X11_161 : LkV RX11 161 MX11_stopDayOf 2 := ⟨lc_X11_stopDayOf, tb350, sl_X11_stopDayOf, tb348⟩
theorem lv_X11_177 : LkV RX11 177 MX9_length 0 := ⟨lc_X9_length, tb443, tb444, tb442⟩
theorem lv_X11_178 : LkV RX11 178 MX9_append 1 := ⟨lc_X9_append, tb447, tb448, tb446⟩
theorem lv_X11_182 : LkV RX11 182 MX9_cut 1 := ⟨lc_X9_cut, tb455, tb456, tb454⟩
theorem lv_X11_185 : LkV RX11 185 MX9_read 0 := ⟨lc_X9_read, tb463, tb464, tb462⟩
theorem lv_X11_190 : LkV RX11 190 MX9_codesRead 0 := ⟨lc_X9_codesRead, tb623, tb624, tb622⟩
theorem lv_X11_197 : LkV RX11 197 MX11_ruleInForce 2 := ⟨lc_X11_ruleInForce, tb658, sl_X11_ruleInForce, tb656⟩
theorem lv_X11_204 : LkV RX11 204 MX6_worth 3 := ⟨lc_X6_worth, tb676, tb677, tb675⟩
theorem lv_X11_208 : LkV RX11 208 MX11_setPersonLetters 1 := ⟨lc_X11_setPersonLetters, tb666, sl_X11_setPersonLetters, tb664⟩
theorem lv_X11_212 : LkV RX11 212 MX11_worthOf 2 := ⟨lc_X11_worthOf, tb673, sl_X11_worthOf, tb671⟩
theorem lv_X11_231 : LkV RX11 231 MX11_isLineKnown 2 := ⟨lc_X11_isLineKnown, tb714, sl_X11_isLineKnown, tb712⟩
theorem lv_X11_239 : LkV RX11 239 MX11_mayBeShown 4 := ⟨lc_X11_mayBeShown, tb725, sl_X11_mayBeShown, tb723⟩
theorem lv_X11_253 : LkV RX11 253 MX11_isDigest 4 := ⟨lc_X11_isDigest, tb733, sl_X11_isDigest, tb731⟩
theorem lv_X11_257 : LkV RX11 257 MX11_pickDigest 4 := ⟨lc_X11_pickDigest, tb737, sl_X11_pickDigest, tb735⟩
theorem lv_X11_261 : LkV RX11 261 MX11_linesFor 2 := ⟨lc_X11_linesFor, tb766, sl_X11_linesFor, tb764⟩
theorem lv_X11_264 : LkV RX11 264 MX1_isFor 2 := ⟨lc_X1_isFor, tb746, tb747, tb745⟩
theorem lv_X11_267 : LkV RX11 267 MX11_digestSize 3 := ⟨lc_X11_digestSize, tb741, sl_X11_digestSize, tb739⟩
theorem lv_X11_271 : LkV RX11 271 MX11_insertPick 3 := ⟨lc_X11_insertPick, tb751, sl_X11_insertPick, tb749⟩
theorem lv_X11_282 : LkV RX11 282 MX11_strengthOf 1 := ⟨lc_X11_strengthOf, tb755, sl_X11_strengthOf, tb753⟩
theorem lv_X11_294 : LkV RX11 294 MX0_isOf 3 := ⟨lc_X0_isOf, tb801, tb802, tb800⟩
theorem lv_X11_301 : LkV RX11 301 MX11_wordOf 3 := ⟨lc_X11_wordOf, tb810, sl_X11_wordOf, tb808⟩
theorem lv_X11_322 : LkV RX11 322 MX11_layMarks 1 := ⟨lc_X11_layMarks, tb855, sl_X11_layMarks, tb853⟩
theorem lv_X11_339 : LkV RX11 339 MX11_readersGiving 2 := ⟨lc_X11_readersGiving, tb875, sl_X11_readersGiving, tb873⟩
theorem lv_X11_342 : LkV RX11 342 MX11_allPeople 0 := ⟨lc_X11_allPeople, tb887, sl_X11_allPeople, tb885⟩
theorem lv_X11_345 : LkV RX11 345 MX11_meanMood 5 := ⟨lc_X11_meanMood, tb891, sl_X11_meanMood, tb889⟩
theorem lv_X11_349 : LkV RX11 349 MX4_livesIn 2 := ⟨lc_X4_livesIn, tb894, tb895, tb893⟩
theorem lv_X11_352 : LkV RX11 352 MX10_clear 0 := ⟨lc_X10_clear, tb906, tb907, tb905⟩
theorem lv_X11_355 : LkV RX11 355 MX10_add 2 := ⟨lc_X10_add, tb910, tb911, tb909⟩
theorem lv_X11_358 : LkV RX11 358 MX10_split 0 := ⟨lc_X10_split, tb914, tb915, tb913⟩
theorem lv_X11_361 : LkV RX11 361 MX10_dayAt 1 := ⟨lc_X10_dayAt, tb929, tb930, tb928⟩
theorem lv_X11_364 : LkV RX11 364 MX10_chanceAt 1 := ⟨lc_X10_chanceAt, tb934, tb935, tb933⟩
theorem lv_X11_367 : LkV RX11 367 MX11_lastOf 2 := ⟨lc_X11_lastOf, tb943, sl_X11_lastOf, tb941⟩
theorem lv_X11_373 : LkV RX11 373 MX8_addWatcher 2 := ⟨lc_X8_addWatcher, tb957, tb958, tb956⟩
theorem lv_X11_376 : LkV RX11 376 MX8_addWanted 2 := ⟨lc_X8_addWanted, tb983, tb984, tb982⟩
theorem lv_X11_379 : LkV RX11 379 MX8_seen 0 := ⟨lc_X8_seen, tb991, tb992, tb990⟩
theorem lv_X11_382 : LkV RX11 382 MX8_wanted 0 := ⟨lc_X8_wanted, tb995, tb996, tb994⟩
theorem lv_X11_385 : LkV RX11 385 MX8_watcherOf 1 := ⟨lc_X8_watcherOf, tb999, tb1000, tb998⟩
theorem lv_X11_388 : LkV RX11 388 MX11_alikeTo 2 := ⟨lc_X11_alikeTo, tb1008, sl_X11_alikeTo, tb1006⟩
theorem lv_X11_392 : LkV RX11 392 MX4_isLike 2 := ⟨lc_X4_isLike, tb1011, tb1012, tb1010⟩
theorem lv_X11_399 : LkV RX11 399 MX11_allHaveAlike 2 := ⟨lc_X11_allHaveAlike, tb1022, sl_X11_allHaveAlike, tb1020⟩
theorem lv_X11_409 : LkV RX11 409 MX11_priceOf 1 := ⟨lc_X11_priceOf, tb1052, sl_X11_priceOf, tb1050⟩
theorem lv_X11_412 : LkV RX11 412 MX11_sortsOf 1 := ⟨lc_X11_sortsOf, tb1056, sl_X11_sortsOf, tb1054⟩
theorem lv_X11_429 : LkV RX11 429 MX11_isLotSize 1 := ⟨lc_X11_isLotSize, tb1077, sl_X11_isLotSize, tb1075⟩
theorem lv_X11_432 : LkV RX11 432 MX11_draw 2 := ⟨lc_X11_draw, tb1081, sl_X11_draw, tb1079⟩
theorem lv_X11_440 : LkV RX11 440 MX11_isDrawn 2 := ⟨lc_X11_isDrawn, tb1091, sl_X11_isDrawn, tb1089⟩
theorem lv_X11_443 : LkV RX11 443 MX8_watchers 0 := ⟨lc_X8_watchers, tb1098, tb1099, tb1097⟩
theorem lv_X11_446 : LkV RX11 446 MX11_personsGone 0 := ⟨lc_X11_personsGone, tb1103, sl_X11_personsGone, tb1101⟩
theorem lv_X11_65 : LkV RX11 65 MJ0_length_8abf5 0 := ⟨lc_J0_length_8abf5, tb144, tb145, tb143⟩
theorem lv_X12_155 : LkV RX12 155 MX12_isLine 1 := ⟨lc_X12_isLine, tb1424, sl_X12_isLine, tb1422⟩
theorem lv_X12_159 : LkV RX12 159 MX12_isKnown 1 := ⟨lc_X12_isKnown, tb1439, sl_X12_isKnown, tb1437⟩
theorem lv_X12_165 : LkV RX12 165 MX12_isPerson 1 := ⟨lc_X12_isPerson, tb1409, sl_X12_isPerson, tb1407⟩
theorem lv_X12_171 : LkV RX12 171 MX12_stopsFrom 2 := ⟨lc_X12_stopsFrom, tb1416, sl_X12_stopsFrom, tb1414⟩
theorem lv_X12_185 : LkV RX12 185 MX12_put 1 := ⟨lc_X12_put, tb1450, sl_X12_put, tb1448⟩
theorem lv_X12_204 : LkV RX12 204 MX12_fails 0 := ⟨lc_X12_fails, tb1476, sl_X12_fails, tb1474⟩
theorem lv_X12_208 : LkV RX12 208 MX12_look 0 := ⟨lc_X12_look, tb1470, sl_X12_look, tb1468⟩
theorem lv_X12_227 : LkV RX12 227 MJ0_indexOf_0f7a4 1 := ⟨lc_J0_indexOf_0f7a4, tb476, tb477, tb1473⟩
theorem lv_X12_232 : LkV RX12 232 MX12_goesIn 0 := ⟨lc_X12_goesIn, tb1509, sl_X12_goesIn, tb1507⟩
theorem lv_X12_235 : LkV RX12 235 MX12_sum 0 := ⟨lc_X12_sum, tb1496, sl_X12_sum, tb1494⟩
theorem lv_X12_238 : LkV RX12 238 MX12_takes 1 := ⟨lc_X12_takes, tb1480, sl_X12_takes, tb1478⟩
theorem lv_X12_241 : LkV RX12 241 MX12_isDigit 0 := ⟨lc_X12_isDigit, tb1513, sl_X12_isDigit, tb1511⟩
theorem lv_X12_244 : LkV RX12 244 MX12_atom 0 := ⟨lc_X12_atom, tb1504, sl_X12_atom, tb1502⟩
theorem lv_X12_251 : LkV RX12 251 MX12_term 0 := ⟨lc_X12_term, tb1500, sl_X12_term, tb1498⟩
theorem lv_X12_257 : LkV RX12 257 MX12_unit 0 := ⟨lc_X12_unit, tb1527, sl_X12_unit, tb1525⟩
theorem lv_X12_260 : LkV RX12 260 MX12_condition 2 := ⟨lc_X12_condition, tb1484, sl_X12_condition, tb1482⟩
theorem lv_X12_264 : LkV RX12 264 MX12_compares 2 := ⟨lc_X12_compares, tb1492, sl_X12_compares, tb1490⟩
theorem lv_X12_267 : LkV RX12 267 MX12_part 2 := ⟨lc_X12_part, tb1488, sl_X12_part, tb1486⟩
theorem lv_X12_282 : LkV RX12 282 MX12_clause 0 := ⟨lc_X12_clause, tb1466, sl_X12_clause, tb1464⟩
theorem lv_X12_285 : LkV RX12 285 MX12_goThrough 4 := ⟨lc_X12_goThrough, tb1462, sl_X12_goThrough, tb1460⟩
theorem lv_X12_292 : LkV RX12 292 MX12_ruleOn 2 := ⟨lc_X12_ruleOn, tb1539, sl_X12_ruleOn, tb1537⟩
theorem lv_X12_295 : LkV RX12 295 MX12_noLetters 0 := ⟨lc_X12_noLetters, tb1547, sl_X12_noLetters, tb1545⟩
theorem lv_X12_298 : LkV RX12 298 MX12_letPerson 1 := ⟨lc_X12_letPerson, tb1551, sl_X12_letPerson, tb1549⟩
theorem lv_X12_301 : LkV RX12 301 MX12_worth 3 := ⟨lc_X12_worth, tb1555, sl_X12_worth, tb1553⟩
theorem lv_X12_305 : LkV RX12 305 MX12_isLineBy 2 := ⟨lc_X12_isLineBy, tb1563, sl_X12_isLineBy, tb1561⟩
theorem lv_X12_309 : LkV RX12 309 MX12_mayShow 4 := ⟨lc_X12_mayShow, tb1567, sl_X12_mayShow, tb1565⟩
theorem lv_X12_326 : LkV RX12 326 MX12_digests 4 := ⟨lc_X12_digests, tb1575, sl_X12_digests, tb1573⟩
theorem lv_X12_332 : LkV RX12 332 MX12_wordOf 3 := ⟨lc_X12_wordOf, tb1598, sl_X12_wordOf, tb1596⟩
theorem lv_X12_341 : LkV RX12 341 MX12_markOf 3 := ⟨lc_X12_markOf, tb1617, sl_X12_markOf, tb1615⟩
theorem lv_X12_345 : LkV RX12 345 MX12_people 0 := ⟨lc_X12_people, tb1642, sl_X12_people, tb1640⟩
theorem lv_X12_348 : LkV RX12 348 MX12_stratum 1 := ⟨lc_X12_stratum, tb1646, sl_X12_stratum, tb1644⟩
theorem lv_X12_359 : LkV RX12 359 MX12_apart 2 := ⟨lc_X12_apart, tb1659, sl_X12_apart, tb1657⟩
theorem lv_X12_363 : LkV RX12 363 MX12_lastOf 2 := ⟨lc_X12_lastOf, tb1668, sl_X12_lastOf, tb1666⟩
theorem lv_X12_366 : LkV RX12 366 MX12_isStopped 2 := ⟨lc_X12_isStopped, tb1676, sl_X12_isStopped, tb1674⟩
theorem lv_X12_378 : LkV RX12 378 MX12_maySee 2 := ⟨lc_X12_maySee, tb1696, sl_X12_maySee, tb1694⟩
theorem lv_X12_381 : LkV RX12 381 MX12_tryTable 2 := ⟨lc_X12_tryTable, tb1692, sl_X12_tryTable, tb1690⟩
theorem lv_X12_385 : LkV RX12 385 MX12_alikeOf 2 := ⟨lc_X12_alikeOf, tb1704, sl_X12_alikeOf, tb1702⟩
theorem lv_X12_396 : LkV RX12 396 MX12_priceOf 1 := ⟨lc_X12_priceOf, tb1721, sl_X12_priceOf, tb1719⟩
theorem lv_X12_399 : LkV RX12 399 MX12_sortsOf 1 := ⟨lc_X12_sortsOf, tb1725, sl_X12_sortsOf, tb1723⟩
theorem lv_X12_406 : LkV RX12 406 MX12_draws 2 := ⟨lc_X12_draws, tb1737, sl_X12_draws, tb1735⟩
theorem lv_X6_22 : LkV RX6 22 MX3_clear 0 := ⟨lc_X3_clear, tb680, tb681, tb679⟩
theorem lv_X6_29 : LkV RX6 29 MJ0_indexOf_0f7a4 1 := ⟨lc_J0_indexOf_0f7a4, tb476, tb477, tb684⟩
theorem lv_X6_35 : LkV RX6 35 MX3_pop 0 := ⟨lc_X3_pop, tb686, tb687, tb685⟩
theorem lv_X6_43 : LkV RX6 43 MX3_push 1 := ⟨lc_X3_push, tb693, tb694, tb692⟩
theorem lv_X8_44 : LkV RX8 44 MX8_planAnew 0 := ⟨lc_X8_planAnew, tb962, sl_X8_planAnew, tb960⟩
theorem lv_X8_57 : LkV RX8 57 MX8_canSee 2 := ⟨lc_X8_canSee, tb970, sl_X8_canSee, tb968⟩
theorem lv_X8_61 : LkV RX8 61 MX8_canBothBeSeen 2 := ⟨lc_X8_canBothBeSeen, tb975, sl_X8_canBothBeSeen, tb973⟩
theorem lv_X9_100 : LkV RX9 100 MX9_readTerm 1 := ⟨lc_X9_readTerm, tb583, sl_X9_readTerm, tb581⟩
theorem lv_X9_105 : LkV RX9 105 MX9_readAtom 1 := ⟨lc_X9_readAtom, tb587, sl_X9_readAtom, tb585⟩
theorem lv_X9_116 : LkV RX9 116 MX9_readNumber 0 := ⟨lc_X9_readNumber, tb594, sl_X9_readNumber, tb592⟩
theorem lv_X9_123 : LkV RX9 123 MJ0_indexOf_0f7a4 1 := ⟨lc_J0_indexOf_0f7a4, tb476, tb477, tb475⟩
theorem lv_X9_35 : LkV RX9 35 MX9_readClause 0 := ⟨lc_X9_readClause, tb468, sl_X9_readClause, tb466⟩
theorem lv_X9_41 : LkV RX9 41 MX9_take 1 := ⟨lc_X9_take, tb559, sl_X9_take, tb557⟩
theorem lv_X9_49 : LkV RX9 49 MX9_sees 1 := ⟨lc_X9_sees, tb473, sl_X9_sees, tb471⟩
theorem lv_X9_52 : LkV RX9 52 MX9_takeSign 0 := ⟨lc_X9_takeSign, tb550, sl_X9_takeSign, tb548⟩
theorem lv_X9_56 : LkV RX9 56 MX9_addCode 1 := ⟨lc_X9_addCode, tb554, sl_X9_addCode, tb552⟩
theorem lv_X9_64 : LkV RX9 64 MX9_readCondition 1 := ⟨lc_X9_readCondition, tb564, sl_X9_readCondition, tb562⟩
theorem lv_X9_68 : LkV RX9 68 MX9_readSum 1 := ⟨lc_X9_readSum, tb579, sl_X9_readSum, tb577⟩
theorem lv_X9_73 : LkV RX9 73 MX9_readComparison 1 := ⟨lc_X9_readComparison, tb601, sl_X9_readComparison, tb599⟩
theorem lv_X9_76 : LkV RX9 76 MX9_readMoreUnits 1 := ⟨lc_X9_readMoreUnits, tb606, sl_X9_readMoreUnits, tb604⟩
theorem lv_X9_79 : LkV RX9 79 MX9_readMoreParts 1 := ⟨lc_X9_readMoreParts, tb611, sl_X9_readMoreParts, tb609⟩
theorem lv_X9_84 : LkV RX9 84 MX9_readPart 1 := ⟨lc_X9_readPart, tb568, sl_X9_readPart, tb566⟩
theorem lv_X9_89 : LkV RX9 89 MX9_readUnit 1 := ⟨lc_X9_readUnit, tb572, sl_X9_readUnit, tb570⟩
