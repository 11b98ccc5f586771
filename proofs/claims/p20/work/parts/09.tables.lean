/-! the methods, their sites, fields, throws: by program out of the tables -/
abbrev MX0_init : MI := (yX0_init, cX0_init, 1, (Option.none : Option Jvm.ClassFile.FieldType), RX0, [])
abbrev MX0_firstLength : MI := (yX0_firstLength, cX0_firstLength, 1, (Option.some Jvm.ClassFile.FieldType.int), RX0, [])
abbrev MX0_secondLength : MI := (yX0_secondLength, cX0_secondLength, 1, (Option.some Jvm.ClassFile.FieldType.int), RX0, [])
abbrev MX0_joinedBits : MI := (yX0_joinedBits, cX0_joinedBits, 2, (Option.some Jvm.ClassFile.FieldType.int), RX0, [])
abbrev MX0_joinedOf : MI := (yX0_joinedOf, cX0_joinedOf, 2, (Option.some Jvm.ClassFile.FieldType.int), RX0, [])
abbrev MX0_hasJoined : MI := (yX0_hasJoined, cX0_hasJoined, 3, (Option.some Jvm.ClassFile.FieldType.boolean), RX0, [])
abbrev MX0_align : MI := (yX0_align, cX0_align, 5, (Option.none : Option Jvm.ClassFile.FieldType), RX0, [])
abbrev MX0_takeLinks : MI := (yX0_takeLinks, cX0_takeLinks, 4, (Option.none : Option Jvm.ClassFile.FieldType), RX0, [])
abbrev MX0_takeLink : MI := (yX0_takeLink, cX0_takeLink, 3, (Option.none : Option Jvm.ClassFile.FieldType), RX0, [])
abbrev MX0_growOnce : MI := (yX0_growOnce, cX0_growOnce, 4, (Option.some Jvm.ClassFile.FieldType.boolean), RX0, [])
abbrev MX0_isToJoin : MI := (yX0_isToJoin, cX0_isToJoin, 4, (Option.some Jvm.ClassFile.FieldType.boolean), RX0, [])
abbrev MX0_isFree : MI := (yX0_isFree, cX0_isFree, 4, (Option.some Jvm.ClassFile.FieldType.boolean), RX0, [])
abbrev MX0_isBesideJoined : MI := (yX0_isBesideJoined, cX0_isBesideJoined, 5, (Option.some Jvm.ClassFile.FieldType.boolean), RX0, [])
abbrev MX0_join : MI := (yX0_join, cX0_join, 3, (Option.none : Option Jvm.ClassFile.FieldType), RX0, [])
abbrev MX0_bitOf : MI := (yX0_bitOf, cX0_bitOf, 1, (Option.some Jvm.ClassFile.FieldType.int), RX0, [])
abbrev MX0_bitsAt : MI := (yX0_bitsAt, cX0_bitsAt, 2, (Option.some Jvm.ClassFile.FieldType.int), RX0, [])
abbrev MX1_init : MI := (yX1_init, cX1_init, 1, (Option.none : Option Jvm.ClassFile.FieldType), RX1, [])
abbrev MX1_made : MI := (yX1_made, cX1_made, 1, (Option.some Jvm.ClassFile.FieldType.int), RX1, [])
abbrev MX1_size : MI := (yX1_size, cX1_size, 1, (Option.some Jvm.ClassFile.FieldType.int), RX1, [])
abbrev MX1_isFull : MI := (yX1_isFull, cX1_isFull, 1, (Option.some Jvm.ClassFile.FieldType.boolean), RX1, [])
abbrev MX1_add : MI := (yX1_add, cX1_add, 3, (Option.some Jvm.ClassFile.FieldType.int), RX1, [])
abbrev MX1_remove : MI := (yX1_remove, cX1_remove, 2, (Option.none : Option Jvm.ClassFile.FieldType), RX1, [])
abbrev MX1_find : MI := (yX1_find, cX1_find, 3, (Option.some (Jvm.ClassFile.FieldType.object "Glosspair$SentencePair")), RX1, [])
abbrev MX2_init : MI := (yX2_init, cX2_init, 2, (Option.none : Option Jvm.ClassFile.FieldType), RX2, [])
abbrev MX2_shareOf : MI := (yX2_shareOf, cX2_shareOf, 4, (Option.some Jvm.ClassFile.FieldType.int), RX2, [])
abbrev MX2_start : MI := (yX2_start, cX2_start, 2, (Option.some Jvm.ClassFile.FieldType.int), RX2, [])
abbrev MX2_learn : MI := (yX2_learn, cX2_learn, 2, (Option.some Jvm.ClassFile.FieldType.int), RX2, [])
abbrev MX2_cellOf : MI := (yX2_cellOf, cX2_cellOf, 3, (Option.some Jvm.ClassFile.FieldType.int), RX2, [])
abbrev MX2_countMeetings : MI := (yX2_countMeetings, cX2_countMeetings, 4, (Option.none : Option Jvm.ClassFile.FieldType), RX2, [])
abbrev MX2_meetAll : MI := (yX2_meetAll, cX2_meetAll, 6, (Option.none : Option Jvm.ClassFile.FieldType), RX2, [])
abbrev MX2_meet : MI := (yX2_meet, cX2_meet, 4, (Option.none : Option Jvm.ClassFile.FieldType), RX2, [])
abbrev MX2_countAnswers : MI := (yX2_countAnswers, cX2_countAnswers, 4, (Option.none : Option Jvm.ClassFile.FieldType), RX2, [])
abbrev MX2_answerAll : MI := (yX2_answerAll, cX2_answerAll, 8, (Option.none : Option Jvm.ClassFile.FieldType), RX2, [])
abbrev MX2_sumOfShares : MI := (yX2_sumOfShares, cX2_sumOfShares, 6, (Option.some Jvm.ClassFile.FieldType.long), RX2, [])
abbrev MX2_addAnswer : MI := (yX2_addAnswer, cX2_addAnswer, 6, (Option.none : Option Jvm.ClassFile.FieldType), RX2, [])
abbrev MX2_apportionAll : MI := (yX2_apportionAll, cX2_apportionAll, 3, (Option.some Jvm.ClassFile.FieldType.int), RX2, [])
abbrev MX2_apportion : MI := (yX2_apportion, cX2_apportion, 5, (Option.none : Option Jvm.ClassFile.FieldType), RX2, [])
abbrev MX2_countOf : MI := (yX2_countOf, cX2_countOf, 4, (Option.some Jvm.ClassFile.FieldType.long), RX2, [])
abbrev MX2_giveWholes : MI := (yX2_giveWholes, cX2_giveWholes, 8, (Option.some Jvm.ClassFile.FieldType.int), RX2, [])
abbrev MX2_giveRests : MI := (yX2_giveRests, cX2_giveRests, 4, (Option.none : Option Jvm.ClassFile.FieldType), RX2, [])
abbrev MX2_placeOfGreatestRest : MI := (yX2_placeOfGreatestRest, cX2_placeOfGreatestRest, 5, (Option.some Jvm.ClassFile.FieldType.int), RX2, [])
abbrev MX2_replaceShares : MI := (yX2_replaceShares, cX2_replaceShares, 5, (Option.some Jvm.ClassFile.FieldType.int), RX2, [])
abbrev MX2_sharesAboveZero : MI := (yX2_sharesAboveZero, cX2_sharesAboveZero, 3, (Option.some Jvm.ClassFile.FieldType.int), RX2, [])
abbrev MX3_init : MI := (yX3_init, cX3_init, 1, (Option.none : Option Jvm.ClassFile.FieldType), RX3, [])
abbrev MX3_consider : MI := (yX3_consider, cX3_consider, 9, (Option.none : Option Jvm.ClassFile.FieldType), RX3, [])
abbrev MX3_productOfSums : MI := (yX3_productOfSums, cX3_productOfSums, 7, (Option.some Jvm.ClassFile.FieldType.long), RX3, [])
abbrev MX3_sumOfProducts : MI := (yX3_sumOfProducts, cX3_sumOfProducts, 1, (Option.some Jvm.ClassFile.FieldType.long), RX3, [])
abbrev MX3_sumOfWays : MI := (yX3_sumOfWays, cX3_sumOfWays, 11, (Option.some Jvm.ClassFile.FieldType.long), RX3, [])
abbrev MX3_setPart : MI := (yX3_setPart, cX3_setPart, 6, (Option.none : Option Jvm.ClassFile.FieldType), RX3, [])
abbrev MX3_partOf : MI := (yX3_partOf, cX3_partOf, 4, (Option.some Jvm.ClassFile.FieldType.long), RX3, [])
abbrev MX3_cellOf : MI := (yX3_cellOf, cX3_cellOf, 2, (Option.some Jvm.ClassFile.FieldType.int), RX3, [])
abbrev MX4_init : MI := (yX4_init, cX4_init, 1, (Option.none : Option Jvm.ClassFile.FieldType), RX4, [])
abbrev MX4_lexicon : MI := (yX4_lexicon, cX4_lexicon, 2, (Option.some (Jvm.ClassFile.FieldType.object "Glosspair$Lexicon")), RX4, [])
abbrev MX4_setWeight : MI := (yX4_setWeight, cX4_setWeight, 3, (Option.some Jvm.ClassFile.FieldType.int), RX4, [])
abbrev MX4_answerFor : MI := (yX4_answerFor, cX4_answerFor, 12, (Option.some Jvm.ClassFile.FieldType.int), RX4, [])
abbrev MX5_init : MI := (yX5_init, cX5_init, 1, (Option.none : Option Jvm.ClassFile.FieldType), RX5, [])
abbrev MX5_count : MI := (yX5_count, cX5_count, 1, (Option.some Jvm.ClassFile.FieldType.int), RX5, [])
abbrev MX5_endOfFound : MI := (yX5_endOfFound, cX5_endOfFound, 2, (Option.some Jvm.ClassFile.FieldType.int), RX5, [])
abbrev MX5_seek : MI := (yX5_seek, cX5_seek, 6, (Option.none : Option Jvm.ClassFile.FieldType), RX5, [])
abbrev MX5_seekAcross : MI := (yX5_seekAcross, cX5_seekAcross, 10, (Option.none : Option Jvm.ClassFile.FieldType), RX5, [])
abbrev MX5_isPhrase : MI := (yX5_isPhrase, cX5_isPhrase, 3, (Option.some Jvm.ClassFile.FieldType.boolean), RX5, [])
abbrev MX5_spanBits : MI := (yX5_spanBits, cX5_spanBits, 4, (Option.some Jvm.ClassFile.FieldType.int), RX5, [])
abbrev MX5_meet : MI := (yX5_meet, cX5_meet, 6, (Option.none : Option Jvm.ClassFile.FieldType), RX5, [])
abbrev MX6_init : MI := (yX6_init, cX6_init, 1, (Option.none : Option Jvm.ClassFile.FieldType), RX6, [])
abbrev MX6_length : MI := (yX6_length, cX6_length, 1, (Option.some Jvm.ClassFile.FieldType.int), RX6, [])
abbrev MX6_isFull : MI := (yX6_isFull, cX6_isFull, 1, (Option.some Jvm.ClassFile.FieldType.boolean), RX6, [])
abbrev MX6_has : MI := (yX6_has, cX6_has, 2, (Option.some Jvm.ClassFile.FieldType.boolean), RX6, [])
abbrev MX6_at : MI := (yX6_at, cX6_at, 2, (Option.some Jvm.ClassFile.FieldType.int), RX6, [])
abbrev MX6_append : MI := (yX6_append, cX6_append, 2, (Option.none : Option Jvm.ClassFile.FieldType), RX6, [])
abbrev MX6_clear : MI := (yX6_clear, cX6_clear, 1, (Option.none : Option Jvm.ClassFile.FieldType), RX6, [])
abbrev MX7_init : MI := (yX7_init, cX7_init, 1, (Option.none : Option Jvm.ClassFile.FieldType), RX7, [])
abbrev MX7_ofSide : MI := (yX7_ofSide, cX7_ofSide, 2, (Option.some (Jvm.ClassFile.FieldType.object "Glosspair$Sentence")), RX7, [])
abbrev MX7_isThere : MI := (yX7_isThere, cX7_isThere, 1, (Option.some Jvm.ClassFile.FieldType.boolean), RX7, [])
abbrev MX7_setThere : MI := (yX7_setThere, cX7_setThere, 2, (Option.none : Option Jvm.ClassFile.FieldType), RX7, [])
abbrev MX8_init : MI := (yX8_init, cX8_init, 1, (Option.none : Option Jvm.ClassFile.FieldType), RX8, [])
abbrev MX8_at : MI := (yX8_at, cX8_at, 2, (Option.some Jvm.ClassFile.FieldType.int), RX8, [])
abbrev MX8_replace : MI := (yX8_replace, cX8_replace, 4, (Option.some Jvm.ClassFile.FieldType.int), RX8, [])
abbrev MX8_between : MI := (yX8_between, cX8_between, 3, (Option.some Jvm.ClassFile.FieldType.int), RX8, [])
abbrev MX8_ofEmpty : MI := (yX8_ofEmpty, cX8_ofEmpty, 1, (Option.some Jvm.ClassFile.FieldType.int), RX8, [])
abbrev MX9_init : MI := (yX9_init, cX9_init, 1, (Option.none : Option Jvm.ClassFile.FieldType), RX9, [])
abbrev MX9_put : MI := (yX9_put, cX9_put, 4, (Option.some Jvm.ClassFile.FieldType.int), RX9, [])
abbrev MX9_wipe : MI := (yX9_wipe, cX9_wipe, 2, (Option.some Jvm.ClassFile.FieldType.int), RX9, [])
abbrev MX9_pair : MI := (yX9_pair, cX9_pair, 2, (Option.some Jvm.ClassFile.FieldType.int), RX9, [])
abbrev MX9_takeBack : MI := (yX9_takeBack, cX9_takeBack, 3, (Option.some Jvm.ClassFile.FieldType.int), RX9, [])
abbrev MX9_begin : MI := (yX9_begin, cX9_begin, 1, (Option.some Jvm.ClassFile.FieldType.int), RX9, [])
abbrev MX9_round : MI := (yX9_round, cX9_round, 1, (Option.some Jvm.ClassFile.FieldType.int), RX9, [])
abbrev MX9_weight : MI := (yX9_weight, cX9_weight, 3, (Option.some Jvm.ClassFile.FieldType.int), RX9, [])
abbrev MX9_pairs : MI := (yX9_pairs, cX9_pairs, 1, (Option.some Jvm.ClassFile.FieldType.int), RX9, [])
abbrev MX9_word : MI := (yX9_word, cX9_word, 5, (Option.some Jvm.ClassFile.FieldType.int), RX9, [])
abbrev MX9_share : MI := (yX9_share, cX9_share, 4, (Option.some Jvm.ClassFile.FieldType.int), RX9, [])
abbrev MX9_link : MI := (yX9_link, cX9_link, 5, (Option.some Jvm.ClassFile.FieldType.int), RX9, [])
abbrev MX9_isJoined : MI := (yX9_isJoined, cX9_isJoined, 5, (Option.some Jvm.ClassFile.FieldType.boolean), RX9, [])
abbrev MX9_phrases : MI := (yX9_phrases, cX9_phrases, 3, (Option.some Jvm.ClassFile.FieldType.int), RX9, [])
abbrev MX9_phrase : MI := (yX9_phrase, cX9_phrase, 5, (Option.some Jvm.ClassFile.FieldType.int), RX9, [])
abbrev MX9_fertility : MI := (yX9_fertility, cX9_fertility, 6, (Option.some Jvm.ClassFile.FieldType.int), RX9, [])
abbrev MX9_total : MI := (yX9_total, cX9_total, 2, (Option.some Jvm.ClassFile.FieldType.long), RX9, [])
abbrev MX9_totalAnew : MI := (yX9_totalAnew, cX9_totalAnew, 2, (Option.some Jvm.ClassFile.FieldType.long), RX9, [])
abbrev MX9_isSide : MI := (yX9_isSide, cX9_isSide, 1, (Option.some Jvm.ClassFile.FieldType.boolean), RX9, [])
abbrev MX9_isWord : MI := (yX9_isWord, cX9_isWord, 1, (Option.some Jvm.ClassFile.FieldType.boolean), RX9, [])
abbrev MX9_pairThatIsThere : MI := (yX9_pairThatIsThere, cX9_pairThatIsThere, 3, (Option.some (Jvm.ClassFile.FieldType.object "Glosspair$SentencePair")), RX9, [])
abbrev MX9_shortPair : MI := (yX9_shortPair, cX9_shortPair, 3, (Option.some (Jvm.ClassFile.FieldType.object "Glosspair$SentencePair")), RX9, [])
abbrev MX9_placesWith : MI := (yX9_placesWith, cX9_placesWith, 6, (Option.some Jvm.ClassFile.FieldType.int), RX9, [])
abbrev MJ6_bitCount_0f7a4 : MI := (yJ6_bitCount_0f7a4, cJ6_bitCount_0f7a4, 1, (Option.some Jvm.ClassFile.FieldType.int), RJ6, [])
abbrev MJ9_abs_0f7a4 : MI := (yJ9_abs_0f7a4, cJ9_abs_0f7a4, 1, (Option.some Jvm.ClassFile.FieldType.int), RJ9, [])
abbrev MJ9_min_7cf53 : MI := (yJ9_min_7cf53, cJ9_min_7cf53, 2, (Option.some Jvm.ClassFile.FieldType.int), RJ9, [])
abbrev MJ7_fill_d0a16 : MI := (yJ7_fill_d0a16, cJ7_fill_d0a16, 5, (Option.none : Option Jvm.ClassFile.FieldType), RJ7, [])
abbrev MJ7_fill_53178 : MI := (yJ7_fill_53178, cJ7_fill_53178, 4, (Option.none : Option Jvm.ClassFile.FieldType), RJ7, [])
abbrev ML_at : MI := (yL_at, cL_at, 2, (Option.some Jvm.ClassFile.FieldType.int), RL, [])
abbrev ML_low : MI := (yL_low, cL_low, 2, (Option.some Jvm.ClassFile.FieldType.int), RL, [])
abbrev ML_put : MI := (yL_put, cL_put, 4, (Option.some Jvm.ClassFile.FieldType.int), RL, [((0 : Nat), (6 : Nat), (7 : Nat), (16 : Nat)), ((0 : Nat), (6 : Nat), (11 : Nat), (19 : Nat))])
abbrev ML_pair : MI := (yL_pair, cL_pair, 2, (Option.some Jvm.ClassFile.FieldType.int), RL, [((0 : Nat), (4 : Nat), (5 : Nat), (19 : Nat))])
abbrev ML_takeBack : MI := (yL_takeBack, cL_takeBack, 3, (Option.some Jvm.ClassFile.FieldType.int), RL, [((0 : Nat), (5 : Nat), (6 : Nat), (16 : Nat))])
abbrev ML_weight : MI := (yL_weight, cL_weight, 4, (Option.some Jvm.ClassFile.FieldType.int), RL, [((0 : Nat), (6 : Nat), (7 : Nat), (16 : Nat)), ((0 : Nat), (6 : Nat), (11 : Nat), (33 : Nat))])
abbrev ML_word : MI := (yL_word, cL_word, 5, (Option.some Jvm.ClassFile.FieldType.int), RL, [((0 : Nat), (7 : Nat), (8 : Nat), (16 : Nat))])
abbrev ML_share : MI := (yL_share, cL_share, 5, (Option.some Jvm.ClassFile.FieldType.int), RL, [((0 : Nat), (7 : Nat), (8 : Nat), (16 : Nat))])
abbrev ML_link : MI := (yL_link, cL_link, 5, (Option.some Jvm.ClassFile.FieldType.int), RL, [((0 : Nat), (7 : Nat), (8 : Nat), (16 : Nat))])
abbrev ML_isJoined : MI := (yL_isJoined, cL_isJoined, 5, (Option.some Jvm.ClassFile.FieldType.int), RL, [((0 : Nat), (15 : Nat), (16 : Nat), (16 : Nat))])
abbrev ML_phrases : MI := (yL_phrases, cL_phrases, 3, (Option.some Jvm.ClassFile.FieldType.int), RL, [((0 : Nat), (5 : Nat), (6 : Nat), (16 : Nat))])
abbrev ML_phrase : MI := (yL_phrase, cL_phrase, 5, (Option.some Jvm.ClassFile.FieldType.int), RL, [((0 : Nat), (7 : Nat), (8 : Nat), (16 : Nat)), ((0 : Nat), (7 : Nat), (13 : Nat), (33 : Nat))])
abbrev ML_fertility : MI := (yL_fertility, cL_fertility, 4, (Option.some Jvm.ClassFile.FieldType.int), RL, [((0 : Nat), (6 : Nat), (7 : Nat), (16 : Nat)), ((0 : Nat), (6 : Nat), (11 : Nat), (33 : Nat))])
abbrev ML_total : MI := (yL_total, cL_total, 3, (Option.some Jvm.ClassFile.FieldType.long), RL, [((0 : Nat), (5 : Nat), (6 : Nat), (16 : Nat)), ((0 : Nat), (5 : Nat), (11 : Nat), (19 : Nat))])
abbrev ML_totalAnew : MI := (yL_totalAnew, cL_totalAnew, 3, (Option.some Jvm.ClassFile.FieldType.long), RL, [((0 : Nat), (5 : Nat), (6 : Nat), (16 : Nat)), ((0 : Nat), (5 : Nat), (11 : Nat), (19 : Nat))])
abbrev ML_areShares : MI := (yL_areShares, cL_areShares, 6, (Option.some Jvm.ClassFile.FieldType.boolean), RL, [])
abbrev ML_areLinks : MI := (yL_areLinks, cL_areLinks, 13, (Option.some Jvm.ClassFile.FieldType.boolean), RL, [])
abbrev ML_arePhrases : MI := (yL_arePhrases, cL_arePhrases, 17, (Option.some Jvm.ClassFile.FieldType.boolean), RL, [])
abbrev ML_areFertile : MI := (yL_areFertile, cL_areFertile, 7, (Option.some Jvm.ClassFile.FieldType.boolean), RL, [])
abbrev ML_puts : MI := (yL_puts, cL_puts, 9, (Option.some Jvm.ClassFile.FieldType.boolean), RL, [])
abbrev ML_pairs : MI := (yL_pairs, cL_pairs, 8, (Option.some Jvm.ClassFile.FieldType.boolean), RL, [])
abbrev ML_empties : MI := (yL_empties, cL_empties, 1, (Option.some Jvm.ClassFile.FieldType.boolean), RL, [])
abbrev ML_acts : MI := (yL_acts, cL_acts, 11, (Option.some Jvm.ClassFile.FieldType.boolean), RL, [])
abbrev ML_law : MI := (yL_law, cL_law, 8, (some FieldType.boolean), RL, [])
theorem ok_X0_init : am_OK MX0_init := ⟨by decide +kernel, rfl, am_in 35 (by decide +kernel) rfl, ⟨by decide +kernel, by decide +kernel⟩, am_in 138 (by decide +kernel) rfl, by decide⟩
theorem na_X0_init : am_NA MX0_init 0 := by unfold am_NA; decide +kernel
theorem ok_X0_firstLength : am_OK MX0_firstLength := ⟨by decide +kernel, rfl, am_in 35 (by decide +kernel) rfl, ⟨by decide +kernel, by decide +kernel⟩, am_in 711 (by decide +kernel) rfl, by decide⟩
theorem na_X0_firstLength : am_NA MX0_firstLength 0 := by unfold am_NA; decide +kernel
theorem ok_X0_secondLength : am_OK MX0_secondLength := ⟨by decide +kernel, rfl, am_in 35 (by decide +kernel) rfl, ⟨by decide +kernel, by decide +kernel⟩, am_in 721 (by decide +kernel) rfl, by decide⟩
theorem na_X0_secondLength : am_NA MX0_secondLength 0 := by unfold am_NA; decide +kernel
theorem ok_X0_joinedBits : am_OK MX0_joinedBits := ⟨by decide +kernel, rfl, am_in 35 (by decide +kernel) rfl, ⟨by decide +kernel, by decide +kernel⟩, am_in 457 (by decide +kernel) rfl, by decide⟩
theorem na_X0_joinedBits : am_NA MX0_joinedBits 1 := by unfold am_NA; decide +kernel
theorem ok_X0_joinedOf : am_OK MX0_joinedOf := ⟨by decide +kernel, rfl, am_in 35 (by decide +kernel) rfl, ⟨by decide +kernel, by decide +kernel⟩, am_in 824 (by decide +kernel) rfl, by decide⟩
theorem na_X0_joinedOf : am_NA MX0_joinedOf 1 := by unfold am_NA; decide +kernel
theorem ok_X0_hasJoined : am_OK MX0_hasJoined := ⟨by decide +kernel, rfl, am_in 35 (by decide +kernel) rfl, ⟨by decide +kernel, by decide +kernel⟩, am_in 453 (by decide +kernel) rfl, by decide⟩
theorem na_X0_hasJoined : am_NA MX0_hasJoined 2 := by unfold am_NA; decide +kernel
theorem ok_X0_align : am_OK MX0_align := ⟨by decide +kernel, rfl, am_in 35 (by decide +kernel) rfl, ⟨by decide +kernel, by decide +kernel⟩, am_in 421 (by decide +kernel) rfl, by decide⟩
theorem na_X0_align : am_NA MX0_align 2 := by unfold am_NA; decide +kernel
theorem ok_X0_takeLinks : am_OK MX0_takeLinks := ⟨by decide +kernel, rfl, am_in 35 (by decide +kernel) rfl, ⟨by decide +kernel, by decide +kernel⟩, am_in 427 (by decide +kernel) rfl, by decide⟩
theorem na_X0_takeLinks : am_NA MX0_takeLinks 2 := by unfold am_NA; decide +kernel
theorem ok_X0_takeLink : am_OK MX0_takeLink := ⟨by decide +kernel, rfl, am_in 35 (by decide +kernel) rfl, ⟨by decide +kernel, by decide +kernel⟩, am_in 435 (by decide +kernel) rfl, by decide⟩
theorem na_X0_takeLink : am_NA MX0_takeLink 2 := by unfold am_NA; decide +kernel
theorem ok_X0_growOnce : am_OK MX0_growOnce := ⟨by decide +kernel, rfl, am_in 35 (by decide +kernel) rfl, ⟨by decide +kernel, by decide +kernel⟩, am_in 445 (by decide +kernel) rfl, by decide⟩
theorem na_X0_growOnce : am_NA MX0_growOnce 0 := by unfold am_NA; decide +kernel
theorem ok_X0_isToJoin : am_OK MX0_isToJoin := ⟨by decide +kernel, rfl, am_in 35 (by decide +kernel) rfl, ⟨by decide +kernel, by decide +kernel⟩, am_in 449 (by decide +kernel) rfl, by decide⟩
theorem na_X0_isToJoin : am_NA MX0_isToJoin 2 := by unfold am_NA; decide +kernel
theorem ok_X0_isFree : am_OK MX0_isFree := ⟨by decide +kernel, rfl, am_in 35 (by decide +kernel) rfl, ⟨by decide +kernel, by decide +kernel⟩, am_in 461 (by decide +kernel) rfl, by decide⟩
theorem na_X0_isFree : am_NA MX0_isFree 1 := by unfold am_NA; decide +kernel
theorem ok_X0_isBesideJoined : am_OK MX0_isBesideJoined := ⟨by decide +kernel, rfl, am_in 35 (by decide +kernel) rfl, ⟨by decide +kernel, by decide +kernel⟩, am_in 465 (by decide +kernel) rfl, by decide⟩
theorem na_X0_isBesideJoined : am_NA MX0_isBesideJoined 2 := by unfold am_NA; decide +kernel
theorem ok_X0_join : am_OK MX0_join := ⟨by decide +kernel, rfl, am_in 35 (by decide +kernel) rfl, ⟨by decide +kernel, by decide +kernel⟩, am_in 469 (by decide +kernel) rfl, by decide⟩
theorem na_X0_join : am_NA MX0_join 2 := by unfold am_NA; decide +kernel
theorem ok_X0_bitOf : am_OK MX0_bitOf := ⟨by decide +kernel, rfl, am_in 35 (by decide +kernel) rfl, ⟨by decide +kernel, by decide +kernel⟩, am_in 438 (by decide +kernel) rfl, by decide⟩
theorem na_X0_bitOf : am_NA MX0_bitOf 1 := by unfold am_NA; decide +kernel
theorem ok_X0_bitsAt : am_OK MX0_bitsAt := ⟨by decide +kernel, rfl, am_in 35 (by decide +kernel) rfl, ⟨by decide +kernel, by decide +kernel⟩, am_in 441 (by decide +kernel) rfl, by decide⟩
theorem na_X0_bitsAt : am_NA MX0_bitsAt 2 := by unfold am_NA; decide +kernel
theorem ok_X1_init : am_OK MX1_init := ⟨by decide +kernel, rfl, am_in 31 (by decide +kernel) rfl, ⟨by decide +kernel, by decide +kernel⟩, am_in 61 (by decide +kernel) rfl, by decide⟩
theorem na_X1_init : am_NA MX1_init 0 := by unfold am_NA; decide +kernel
theorem ok_X1_made : am_OK MX1_made := ⟨by decide +kernel, rfl, am_in 31 (by decide +kernel) rfl, ⟨by decide +kernel, by decide +kernel⟩, am_in 578 (by decide +kernel) rfl, by decide⟩
theorem na_X1_made : am_NA MX1_made 0 := by unfold am_NA; decide +kernel
theorem ok_X1_size : am_OK MX1_size := ⟨by decide +kernel, rfl, am_in 31 (by decide +kernel) rfl, ⟨by decide +kernel, by decide +kernel⟩, am_in 240 (by decide +kernel) rfl, by decide⟩
theorem na_X1_size : am_NA MX1_size 0 := by unfold am_NA; decide +kernel
theorem ok_X1_isFull : am_OK MX1_isFull := ⟨by decide +kernel, rfl, am_in 31 (by decide +kernel) rfl, ⟨by decide +kernel, by decide +kernel⟩, am_in 530 (by decide +kernel) rfl, by decide⟩
theorem na_X1_isFull : am_NA MX1_isFull 0 := by unfold am_NA; decide +kernel
theorem ok_X1_add : am_OK MX1_add := ⟨by decide +kernel, rfl, am_in 31 (by decide +kernel) rfl, ⟨by decide +kernel, by decide +kernel⟩, am_in 535 (by decide +kernel) rfl, by decide⟩
theorem na_X1_add : am_NA MX1_add 1 := by unfold am_NA; decide +kernel
theorem ok_X1_remove : am_OK MX1_remove := ⟨by decide +kernel, rfl, am_in 31 (by decide +kernel) rfl, ⟨by decide +kernel, by decide +kernel⟩, am_in 696 (by decide +kernel) rfl, by decide⟩
theorem na_X1_remove : am_NA MX1_remove 1 := by unfold am_NA; decide +kernel
theorem ok_X1_find : am_OK MX1_find := ⟨by decide +kernel, rfl, am_in 31 (by decide +kernel) rfl, ⟨by decide +kernel, by decide +kernel⟩, am_in 361 (by decide +kernel) rfl, by decide⟩
theorem na_X1_find : am_NA MX1_find 1 := by unfold am_NA; decide +kernel
theorem ok_X2_init : am_OK MX2_init := ⟨by decide +kernel, rfl, am_in 33 (by decide +kernel) rfl, ⟨by decide +kernel, by decide +kernel⟩, am_in 85 (by decide +kernel) rfl, by decide⟩
theorem na_X2_init : am_NA MX2_init 1 := by unfold am_NA; decide +kernel
theorem ok_X2_shareOf : am_OK MX2_shareOf := ⟨by decide +kernel, rfl, am_in 33 (by decide +kernel) rfl, ⟨by decide +kernel, by decide +kernel⟩, am_in 338 (by decide +kernel) rfl, by decide⟩
theorem na_X2_shareOf : am_NA MX2_shareOf 2 := by unfold am_NA; decide +kernel
theorem ok_X2_start : am_OK MX2_start := ⟨by decide +kernel, rfl, am_in 33 (by decide +kernel) rfl, ⟨by decide +kernel, by decide +kernel⟩, am_in 567 (by decide +kernel) rfl, by decide⟩
theorem na_X2_start : am_NA MX2_start 1 := by unfold am_NA; decide +kernel
theorem ok_X2_learn : am_OK MX2_learn := ⟨by decide +kernel, rfl, am_in 33 (by decide +kernel) rfl, ⟨by decide +kernel, by decide +kernel⟩, am_in 634 (by decide +kernel) rfl, by decide⟩
theorem na_X2_learn : am_NA MX2_learn 1 := by unfold am_NA; decide +kernel
theorem ok_X2_cellOf : am_OK MX2_cellOf := ⟨by decide +kernel, rfl, am_in 33 (by decide +kernel) rfl, ⟨by decide +kernel, by decide +kernel⟩, am_in 341 (by decide +kernel) rfl, by decide⟩
theorem na_X2_cellOf : am_NA MX2_cellOf 2 := by unfold am_NA; decide +kernel
theorem ok_X2_countMeetings : am_OK MX2_countMeetings := ⟨by decide +kernel, rfl, am_in 33 (by decide +kernel) rfl, ⟨by decide +kernel, by decide +kernel⟩, am_in 571 (by decide +kernel) rfl, by decide⟩
theorem na_X2_countMeetings : am_NA MX2_countMeetings 1 := by unfold am_NA; decide +kernel
theorem ok_X2_meetAll : am_OK MX2_meetAll := ⟨by decide +kernel, rfl, am_in 33 (by decide +kernel) rfl, ⟨by decide +kernel, by decide +kernel⟩, am_in 584 (by decide +kernel) rfl, by decide⟩
theorem na_X2_meetAll : am_NA MX2_meetAll 2 := by unfold am_NA; decide +kernel
theorem ok_X2_meet : am_OK MX2_meet := ⟨by decide +kernel, rfl, am_in 33 (by decide +kernel) rfl, ⟨by decide +kernel, by decide +kernel⟩, am_in 590 (by decide +kernel) rfl, by decide⟩
theorem na_X2_meet : am_NA MX2_meet 2 := by unfold am_NA; decide +kernel
theorem ok_X2_countAnswers : am_OK MX2_countAnswers := ⟨by decide +kernel, rfl, am_in 33 (by decide +kernel) rfl, ⟨by decide +kernel, by decide +kernel⟩, am_in 638 (by decide +kernel) rfl, by decide⟩
theorem na_X2_countAnswers : am_NA MX2_countAnswers 1 := by unfold am_NA; decide +kernel
theorem ok_X2_answerAll : am_OK MX2_answerAll := ⟨by decide +kernel, rfl, am_in 33 (by decide +kernel) rfl, ⟨by decide +kernel, by decide +kernel⟩, am_in 642 (by decide +kernel) rfl, by decide⟩
theorem na_X2_answerAll : am_NA MX2_answerAll 2 := by unfold am_NA; decide +kernel
theorem ok_X2_sumOfShares : am_OK MX2_sumOfShares := ⟨by decide +kernel, rfl, am_in 33 (by decide +kernel) rfl, ⟨by decide +kernel, by decide +kernel⟩, am_in 646 (by decide +kernel) rfl, by decide⟩
theorem na_X2_sumOfShares : am_NA MX2_sumOfShares 2 := by unfold am_NA; decide +kernel
theorem ok_X2_addAnswer : am_OK MX2_addAnswer := ⟨by decide +kernel, rfl, am_in 33 (by decide +kernel) rfl, ⟨by decide +kernel, by decide +kernel⟩, am_in 651 (by decide +kernel) rfl, by decide⟩
theorem na_X2_addAnswer : am_NA MX2_addAnswer 3 := by unfold am_NA; decide +kernel
theorem ok_X2_apportionAll : am_OK MX2_apportionAll := ⟨by decide +kernel, rfl, am_in 33 (by decide +kernel) rfl, ⟨by decide +kernel, by decide +kernel⟩, am_in 594 (by decide +kernel) rfl, by decide⟩
theorem na_X2_apportionAll : am_NA MX2_apportionAll 0 := by unfold am_NA; decide +kernel
theorem ok_X2_apportion : am_OK MX2_apportion := ⟨by decide +kernel, rfl, am_in 33 (by decide +kernel) rfl, ⟨by decide +kernel, by decide +kernel⟩, am_in 598 (by decide +kernel) rfl, by decide⟩
theorem na_X2_apportion : am_NA MX2_apportion 1 := by unfold am_NA; decide +kernel
theorem ok_X2_countOf : am_OK MX2_countOf := ⟨by decide +kernel, rfl, am_in 33 (by decide +kernel) rfl, ⟨by decide +kernel, by decide +kernel⟩, am_in 603 (by decide +kernel) rfl, by decide⟩
theorem na_X2_countOf : am_NA MX2_countOf 2 := by unfold am_NA; decide +kernel
theorem ok_X2_giveWholes : am_OK MX2_giveWholes := ⟨by decide +kernel, rfl, am_in 33 (by decide +kernel) rfl, ⟨by decide +kernel, by decide +kernel⟩, am_in 607 (by decide +kernel) rfl, by decide⟩
theorem na_X2_giveWholes : am_NA MX2_giveWholes 2 := by unfold am_NA; decide +kernel
theorem ok_X2_giveRests : am_OK MX2_giveRests := ⟨by decide +kernel, rfl, am_in 33 (by decide +kernel) rfl, ⟨by decide +kernel, by decide +kernel⟩, am_in 613 (by decide +kernel) rfl, by decide⟩
theorem na_X2_giveRests : am_NA MX2_giveRests 1 := by unfold am_NA; decide +kernel
theorem ok_X2_placeOfGreatestRest : am_OK MX2_placeOfGreatestRest := ⟨by decide +kernel, rfl, am_in 33 (by decide +kernel) rfl, ⟨by decide +kernel, by decide +kernel⟩, am_in 617 (by decide +kernel) rfl, by decide⟩
theorem na_X2_placeOfGreatestRest : am_NA MX2_placeOfGreatestRest 0 := by unfold am_NA; decide +kernel
theorem ok_X2_replaceShares : am_OK MX2_replaceShares := ⟨by decide +kernel, rfl, am_in 33 (by decide +kernel) rfl, ⟨by decide +kernel, by decide +kernel⟩, am_in 622 (by decide +kernel) rfl, by decide⟩
theorem na_X2_replaceShares : am_NA MX2_replaceShares 1 := by unfold am_NA; decide +kernel
theorem ok_X2_sharesAboveZero : am_OK MX2_sharesAboveZero := ⟨by decide +kernel, rfl, am_in 33 (by decide +kernel) rfl, ⟨by decide +kernel, by decide +kernel⟩, am_in 626 (by decide +kernel) rfl, by decide⟩
theorem na_X2_sharesAboveZero : am_NA MX2_sharesAboveZero 0 := by unfold am_NA; decide +kernel
theorem ok_X3_init : am_OK MX3_init := ⟨by decide +kernel, rfl, am_in 37 (by decide +kernel) rfl, ⟨by decide +kernel, by decide +kernel⟩, am_in 173 (by decide +kernel) rfl, by decide⟩
theorem na_X3_init : am_NA MX3_init 0 := by unfold am_NA; decide +kernel
theorem ok_X3_consider : am_OK MX3_consider := ⟨by decide +kernel, rfl, am_in 37 (by decide +kernel) rfl, ⟨by decide +kernel, by decide +kernel⟩, am_in 752 (by decide +kernel) rfl, by decide⟩
theorem na_X3_consider : am_NA MX3_consider 2 := by unfold am_NA; decide +kernel
theorem ok_X3_productOfSums : am_OK MX3_productOfSums := ⟨by decide +kernel, rfl, am_in 37 (by decide +kernel) rfl, ⟨by decide +kernel, by decide +kernel⟩, am_in 768 (by decide +kernel) rfl, by decide⟩
theorem na_X3_productOfSums : am_NA MX3_productOfSums 0 := by unfold am_NA; decide +kernel
theorem ok_X3_sumOfProducts : am_OK MX3_sumOfProducts := ⟨by decide +kernel, rfl, am_in 37 (by decide +kernel) rfl, ⟨by decide +kernel, by decide +kernel⟩, am_in 784 (by decide +kernel) rfl, by decide⟩
theorem na_X3_sumOfProducts : am_NA MX3_sumOfProducts 0 := by unfold am_NA; decide +kernel
theorem ok_X3_sumOfWays : am_OK MX3_sumOfWays := ⟨by decide +kernel, rfl, am_in 37 (by decide +kernel) rfl, ⟨by decide +kernel, by decide +kernel⟩, am_in 787 (by decide +kernel) rfl, by decide⟩
theorem na_X3_sumOfWays : am_NA MX3_sumOfWays 5 := by unfold am_NA; decide +kernel
theorem ok_X3_setPart : am_OK MX3_setPart := ⟨by decide +kernel, rfl, am_in 37 (by decide +kernel) rfl, ⟨by decide +kernel, by decide +kernel⟩, am_in 761 (by decide +kernel) rfl, by decide⟩
theorem na_X3_setPart : am_NA MX3_setPart 3 := by unfold am_NA; decide +kernel
theorem ok_X3_partOf : am_OK MX3_partOf := ⟨by decide +kernel, rfl, am_in 37 (by decide +kernel) rfl, ⟨by decide +kernel, by decide +kernel⟩, am_in 771 (by decide +kernel) rfl, by decide⟩
theorem na_X3_partOf : am_NA MX3_partOf 3 := by unfold am_NA; decide +kernel
theorem ok_X3_cellOf : am_OK MX3_cellOf := ⟨by decide +kernel, rfl, am_in 37 (by decide +kernel) rfl, ⟨by decide +kernel, by decide +kernel⟩, am_in 764 (by decide +kernel) rfl, by decide⟩
theorem na_X3_cellOf : am_NA MX3_cellOf 2 := by unfold am_NA; decide +kernel
theorem ok_X4_init : am_OK MX4_init := ⟨by decide +kernel, rfl, am_in 32 (by decide +kernel) rfl, ⟨by decide +kernel, by decide +kernel⟩, am_in 79 (by decide +kernel) rfl, by decide⟩
theorem na_X4_init : am_NA MX4_init 0 := by unfold am_NA; decide +kernel
theorem ok_X4_lexicon : am_OK MX4_lexicon := ⟨by decide +kernel, rfl, am_in 32 (by decide +kernel) rfl, ⟨by decide +kernel, by decide +kernel⟩, am_in 334 (by decide +kernel) rfl, by decide⟩
theorem na_X4_lexicon : am_NA MX4_lexicon 1 := by unfold am_NA; decide +kernel
theorem ok_X4_setWeight : am_OK MX4_setWeight := ⟨by decide +kernel, rfl, am_in 32 (by decide +kernel) rfl, ⟨by decide +kernel, by decide +kernel⟩, am_in 680 (by decide +kernel) rfl, by decide⟩
theorem na_X4_setWeight : am_NA MX4_setWeight 2 := by unfold am_NA; decide +kernel
theorem ok_X4_answerFor : am_OK MX4_answerFor := ⟨by decide +kernel, rfl, am_in 32 (by decide +kernel) rfl, ⟨by decide +kernel, by decide +kernel⟩, am_in 379 (by decide +kernel) rfl, by decide⟩
theorem na_X4_answerFor : am_NA MX4_answerFor 3 := by unfold am_NA; decide +kernel
theorem ok_X5_init : am_OK MX5_init := ⟨by decide +kernel, rfl, am_in 36 (by decide +kernel) rfl, ⟨by decide +kernel, by decide +kernel⟩, am_in 160 (by decide +kernel) rfl, by decide⟩
theorem na_X5_init : am_NA MX5_init 0 := by unfold am_NA; decide +kernel
theorem ok_X5_count : am_OK MX5_count := ⟨by decide +kernel, rfl, am_in 36 (by decide +kernel) rfl, ⟨by decide +kernel, by decide +kernel⟩, am_in 736 (by decide +kernel) rfl, by decide⟩
theorem na_X5_count : am_NA MX5_count 0 := by unfold am_NA; decide +kernel
theorem ok_X5_endOfFound : am_OK MX5_endOfFound := ⟨by decide +kernel, rfl, am_in 36 (by decide +kernel) rfl, ⟨by decide +kernel, by decide +kernel⟩, am_in 803 (by decide +kernel) rfl, by decide⟩
theorem na_X5_endOfFound : am_NA MX5_endOfFound 1 := by unfold am_NA; decide +kernel
theorem ok_X5_seek : am_OK MX5_seek := ⟨by decide +kernel, rfl, am_in 36 (by decide +kernel) rfl, ⟨by decide +kernel, by decide +kernel⟩, am_in 707 (by decide +kernel) rfl, by decide⟩
theorem na_X5_seek : am_NA MX5_seek 2 := by unfold am_NA; decide +kernel
theorem ok_X5_seekAcross : am_OK MX5_seekAcross := ⟨by decide +kernel, rfl, am_in 36 (by decide +kernel) rfl, ⟨by decide +kernel, by decide +kernel⟩, am_in 716 (by decide +kernel) rfl, by decide⟩
theorem na_X5_seekAcross : am_NA MX5_seekAcross 4 := by unfold am_NA; decide +kernel
theorem ok_X5_isPhrase : am_OK MX5_isPhrase := ⟨by decide +kernel, rfl, am_in 36 (by decide +kernel) rfl, ⟨by decide +kernel, by decide +kernel⟩, am_in 728 (by decide +kernel) rfl, by decide⟩
theorem na_X5_isPhrase : am_NA MX5_isPhrase 3 := by unfold am_NA; decide +kernel
theorem ok_X5_spanBits : am_OK MX5_spanBits := ⟨by decide +kernel, rfl, am_in 36 (by decide +kernel) rfl, ⟨by decide +kernel, by decide +kernel⟩, am_in 724 (by decide +kernel) rfl, by decide⟩
theorem na_X5_spanBits : am_NA MX5_spanBits 2 := by unfold am_NA; decide +kernel
theorem ok_X5_meet : am_OK MX5_meet := ⟨by decide +kernel, rfl, am_in 36 (by decide +kernel) rfl, ⟨by decide +kernel, by decide +kernel⟩, am_in 732 (by decide +kernel) rfl, by decide⟩
theorem na_X5_meet : am_NA MX5_meet 5 := by unfold am_NA; decide +kernel
theorem ok_X6_init : am_OK MX6_init := ⟨by decide +kernel, rfl, am_in 39 (by decide +kernel) rfl, ⟨by decide +kernel, by decide +kernel⟩, am_in 195 (by decide +kernel) rfl, by decide⟩
theorem na_X6_init : am_NA MX6_init 0 := by unfold am_NA; decide +kernel
theorem ok_X6_length : am_OK MX6_length := ⟨by decide +kernel, rfl, am_in 39 (by decide +kernel) rfl, ⟨by decide +kernel, by decide +kernel⟩, am_in 390 (by decide +kernel) rfl, by decide⟩
theorem na_X6_length : am_NA MX6_length 0 := by unfold am_NA; decide +kernel
theorem ok_X6_isFull : am_OK MX6_isFull := ⟨by decide +kernel, rfl, am_in 39 (by decide +kernel) rfl, ⟨by decide +kernel, by decide +kernel⟩, am_in 493 (by decide +kernel) rfl, by decide⟩
theorem na_X6_isFull : am_NA MX6_isFull 0 := by unfold am_NA; decide +kernel
theorem ok_X6_has : am_OK MX6_has := ⟨by decide +kernel, rfl, am_in 39 (by decide +kernel) rfl, ⟨by decide +kernel, by decide +kernel⟩, am_in 374 (by decide +kernel) rfl, by decide⟩
theorem na_X6_has : am_NA MX6_has 1 := by unfold am_NA; decide +kernel
theorem ok_X6_at : am_OK MX6_at := ⟨by decide +kernel, rfl, am_in 39 (by decide +kernel) rfl, ⟨by decide +kernel, by decide +kernel⟩, am_in 385 (by decide +kernel) rfl, by decide⟩
theorem na_X6_at : am_NA MX6_at 1 := by unfold am_NA; decide +kernel
theorem ok_X6_append : am_OK MX6_append := ⟨by decide +kernel, rfl, am_in 39 (by decide +kernel) rfl, ⟨by decide +kernel, by decide +kernel⟩, am_in 513 (by decide +kernel) rfl, by decide⟩
theorem na_X6_append : am_NA MX6_append 1 := by unfold am_NA; decide +kernel
theorem ok_X6_clear : am_OK MX6_clear := ⟨by decide +kernel, rfl, am_in 39 (by decide +kernel) rfl, ⟨by decide +kernel, by decide +kernel⟩, am_in 547 (by decide +kernel) rfl, by decide⟩
theorem na_X6_clear : am_NA MX6_clear 0 := by unfold am_NA; decide +kernel
theorem ok_X7_init : am_OK MX7_init := ⟨by decide +kernel, rfl, am_in 38 (by decide +kernel) rfl, ⟨by decide +kernel, by decide +kernel⟩, am_in 189 (by decide +kernel) rfl, by decide⟩
theorem na_X7_init : am_NA MX7_init 0 := by unfold am_NA; decide +kernel
theorem ok_X7_ofSide : am_OK MX7_ofSide := ⟨by decide +kernel, rfl, am_in 38 (by decide +kernel) rfl, ⟨by decide +kernel, by decide +kernel⟩, am_in 370 (by decide +kernel) rfl, by decide⟩
theorem na_X7_ofSide : am_NA MX7_ofSide 1 := by unfold am_NA; decide +kernel
theorem ok_X7_isThere : am_OK MX7_isThere := ⟨by decide +kernel, rfl, am_in 38 (by decide +kernel) rfl, ⟨by decide +kernel, by decide +kernel⟩, am_in 365 (by decide +kernel) rfl, by decide⟩
theorem na_X7_isThere : am_NA MX7_isThere 0 := by unfold am_NA; decide +kernel
theorem ok_X7_setThere : am_OK MX7_setThere := ⟨by decide +kernel, rfl, am_in 38 (by decide +kernel) rfl, ⟨by decide +kernel, by decide +kernel⟩, am_in 539 (by decide +kernel) rfl, by decide⟩
theorem na_X7_setThere : am_NA MX7_setThere 1 := by unfold am_NA; decide +kernel
theorem ok_X8_init : am_OK MX8_init := ⟨by decide +kernel, rfl, am_in 34 (by decide +kernel) rfl, ⟨by decide +kernel, by decide +kernel⟩, am_in 109 (by decide +kernel) rfl, by decide⟩
theorem na_X8_init : am_NA MX8_init 0 := by unfold am_NA; decide +kernel
theorem ok_X8_at : am_OK MX8_at := ⟨by decide +kernel, rfl, am_in 34 (by decide +kernel) rfl, ⟨by decide +kernel, by decide +kernel⟩, am_in 405 (by decide +kernel) rfl, by decide⟩
theorem na_X8_at : am_NA MX8_at 1 := by unfold am_NA; decide +kernel
theorem ok_X8_replace : am_OK MX8_replace := ⟨by decide +kernel, rfl, am_in 34 (by decide +kernel) rfl, ⟨by decide +kernel, by decide +kernel⟩, am_in 684 (by decide +kernel) rfl, by decide⟩
theorem na_X8_replace : am_NA MX8_replace 2 := by unfold am_NA; decide +kernel
theorem ok_X8_between : am_OK MX8_between := ⟨by decide +kernel, rfl, am_in 34 (by decide +kernel) rfl, ⟨by decide +kernel, by decide +kernel⟩, am_in 395 (by decide +kernel) rfl, by decide⟩
theorem na_X8_between : am_NA MX8_between 2 := by unfold am_NA; decide +kernel
theorem ok_X8_ofEmpty : am_OK MX8_ofEmpty := ⟨by decide +kernel, rfl, am_in 34 (by decide +kernel) rfl, ⟨by decide +kernel, by decide +kernel⟩, am_in 409 (by decide +kernel) rfl, by decide⟩
theorem na_X8_ofEmpty : am_NA MX8_ofEmpty 0 := by unfold am_NA; decide +kernel
theorem ok_X9_init : am_OK MX9_init := ⟨by decide +kernel, rfl, am_in 30 (by decide +kernel) rfl, ⟨by decide +kernel, by decide +kernel⟩, am_in 53 (by decide +kernel) rfl, by decide⟩
theorem na_X9_init : am_NA MX9_init 0 := by unfold am_NA; decide +kernel
theorem ok_X9_put : am_OK MX9_put := ⟨by decide +kernel, rfl, am_in 30 (by decide +kernel) rfl, ⟨by decide +kernel, by decide +kernel⟩, am_in 488 (by decide +kernel) rfl, by decide⟩
theorem na_X9_put : am_NA MX9_put 2 := by unfold am_NA; decide +kernel
theorem ok_X9_wipe : am_OK MX9_wipe := ⟨by decide +kernel, rfl, am_in 30 (by decide +kernel) rfl, ⟨by decide +kernel, by decide +kernel⟩, am_in 543 (by decide +kernel) rfl, by decide⟩
theorem na_X9_wipe : am_NA MX9_wipe 0 := by unfold am_NA; decide +kernel
theorem ok_X9_pair : am_OK MX9_pair := ⟨by decide +kernel, rfl, am_in 30 (by decide +kernel) rfl, ⟨by decide +kernel, by decide +kernel⟩, am_in 525 (by decide +kernel) rfl, by decide⟩
theorem na_X9_pair : am_NA MX9_pair 0 := by unfold am_NA; decide +kernel
theorem ok_X9_takeBack : am_OK MX9_takeBack := ⟨by decide +kernel, rfl, am_in 30 (by decide +kernel) rfl, ⟨by decide +kernel, by decide +kernel⟩, am_in 692 (by decide +kernel) rfl, by decide⟩
theorem na_X9_takeBack : am_NA MX9_takeBack 1 := by unfold am_NA; decide +kernel
theorem ok_X9_begin : am_OK MX9_begin := ⟨by decide +kernel, rfl, am_in 30 (by decide +kernel) rfl, ⟨by decide +kernel, by decide +kernel⟩, am_in 563 (by decide +kernel) rfl, by decide⟩
theorem na_X9_begin : am_NA MX9_begin 0 := by unfold am_NA; decide +kernel
theorem ok_X9_round : am_OK MX9_round := ⟨by decide +kernel, rfl, am_in 30 (by decide +kernel) rfl, ⟨by decide +kernel, by decide +kernel⟩, am_in 630 (by decide +kernel) rfl, by decide⟩
theorem na_X9_round : am_NA MX9_round 0 := by unfold am_NA; decide +kernel
theorem ok_X9_weight : am_OK MX9_weight := ⟨by decide +kernel, rfl, am_in 30 (by decide +kernel) rfl, ⟨by decide +kernel, by decide +kernel⟩, am_in 659 (by decide +kernel) rfl, by decide⟩
theorem na_X9_weight : am_NA MX9_weight 2 := by unfold am_NA; decide +kernel
theorem ok_X9_pairs : am_OK MX9_pairs := ⟨by decide +kernel, rfl, am_in 30 (by decide +kernel) rfl, ⟨by decide +kernel, by decide +kernel⟩, am_in 236 (by decide +kernel) rfl, by decide⟩
theorem na_X9_pairs : am_NA MX9_pairs 0 := by unfold am_NA; decide +kernel
theorem ok_X9_word : am_OK MX9_word := ⟨by decide +kernel, rfl, am_in 30 (by decide +kernel) rfl, ⟨by decide +kernel, by decide +kernel⟩, am_in 557 (by decide +kernel) rfl, by decide⟩
theorem na_X9_word : am_NA MX9_word 3 := by unfold am_NA; decide +kernel
theorem ok_X9_share : am_OK MX9_share := ⟨by decide +kernel, rfl, am_in 30 (by decide +kernel) rfl, ⟨by decide +kernel, by decide +kernel⟩, am_in 256 (by decide +kernel) rfl, by decide⟩
theorem na_X9_share : am_NA MX9_share 3 := by unfold am_NA; decide +kernel
theorem ok_X9_link : am_OK MX9_link := ⟨by decide +kernel, rfl, am_in 30 (by decide +kernel) rfl, ⟨by decide +kernel, by decide +kernel⟩, am_in 353 (by decide +kernel) rfl, by decide⟩
theorem na_X9_link : am_NA MX9_link 3 := by unfold am_NA; decide +kernel
theorem ok_X9_isJoined : am_OK MX9_isJoined := ⟨by decide +kernel, rfl, am_in 30 (by decide +kernel) rfl, ⟨by decide +kernel, by decide +kernel⟩, am_in 416 (by decide +kernel) rfl, by decide⟩
theorem na_X9_isJoined : am_NA MX9_isJoined 3 := by unfold am_NA; decide +kernel
theorem ok_X9_phrases : am_OK MX9_phrases := ⟨by decide +kernel, rfl, am_in 30 (by decide +kernel) rfl, ⟨by decide +kernel, by decide +kernel⟩, am_in 703 (by decide +kernel) rfl, by decide⟩
theorem na_X9_phrases : am_NA MX9_phrases 1 := by unfold am_NA; decide +kernel
theorem ok_X9_phrase : am_OK MX9_phrase := ⟨by decide +kernel, rfl, am_in 30 (by decide +kernel) rfl, ⟨by decide +kernel, by decide +kernel⟩, am_in 797 (by decide +kernel) rfl, by decide⟩
theorem na_X9_phrase : am_NA MX9_phrase 3 := by unfold am_NA; decide +kernel
theorem ok_X9_fertility : am_OK MX9_fertility := ⟨by decide +kernel, rfl, am_in 30 (by decide +kernel) rfl, ⟨by decide +kernel, by decide +kernel⟩, am_in 813 (by decide +kernel) rfl, by decide⟩
theorem na_X9_fertility : am_NA MX9_fertility 2 := by unfold am_NA; decide +kernel
theorem ok_X9_total : am_OK MX9_total := ⟨by decide +kernel, rfl, am_in 30 (by decide +kernel) rfl, ⟨by decide +kernel, by decide +kernel⟩, am_in 743 (by decide +kernel) rfl, by decide⟩
theorem na_X9_total : am_NA MX9_total 1 := by unfold am_NA; decide +kernel
theorem ok_X9_totalAnew : am_OK MX9_totalAnew := ⟨by decide +kernel, rfl, am_in 30 (by decide +kernel) rfl, ⟨by decide +kernel, by decide +kernel⟩, am_in 780 (by decide +kernel) rfl, by decide⟩
theorem na_X9_totalAnew : am_NA MX9_totalAnew 1 := by unfold am_NA; decide +kernel
theorem ok_X9_isSide : am_OK MX9_isSide := ⟨by decide +kernel, rfl, am_in 30 (by decide +kernel) rfl, ⟨by decide +kernel, by decide +kernel⟩, am_in 259 (by decide +kernel) rfl, by decide⟩
theorem na_X9_isSide : am_NA MX9_isSide 1 := by unfold am_NA; decide +kernel
theorem ok_X9_isWord : am_OK MX9_isWord := ⟨by decide +kernel, rfl, am_in 30 (by decide +kernel) rfl, ⟨by decide +kernel, by decide +kernel⟩, am_in 262 (by decide +kernel) rfl, by decide⟩
theorem na_X9_isWord : am_NA MX9_isWord 1 := by unfold am_NA; decide +kernel
theorem ok_X9_pairThatIsThere : am_OK MX9_pairThatIsThere := ⟨by decide +kernel, rfl, am_in 30 (by decide +kernel) rfl, ⟨by decide +kernel, by decide +kernel⟩, am_in 357 (by decide +kernel) rfl, by decide⟩
theorem na_X9_pairThatIsThere : am_NA MX9_pairThatIsThere 1 := by unfold am_NA; decide +kernel
theorem ok_X9_shortPair : am_OK MX9_shortPair := ⟨by decide +kernel, rfl, am_in 30 (by decide +kernel) rfl, ⟨by decide +kernel, by decide +kernel⟩, am_in 747 (by decide +kernel) rfl, by decide⟩
theorem na_X9_shortPair : am_NA MX9_shortPair 1 := by unfold am_NA; decide +kernel
theorem ok_X9_placesWith : am_OK MX9_placesWith := ⟨by decide +kernel, rfl, am_in 30 (by decide +kernel) rfl, ⟨by decide +kernel, by decide +kernel⟩, am_in 820 (by decide +kernel) rfl, by decide⟩
theorem na_X9_placesWith : am_NA MX9_placesWith 3 := by unfold am_NA; decide +kernel
theorem ok_J6_bitCount_0f7a4 : am_OK MJ6_bitCount_0f7a4 := ⟨by decide +kernel, rfl, am_in 48 (by decide +kernel) rfl, ⟨by decide +kernel, by decide +kernel⟩, am_in 827 (by decide +kernel) rfl, by decide⟩
theorem na_J6_bitCount_0f7a4 : am_NA MJ6_bitCount_0f7a4 1 := by unfold am_NA; decide +kernel
theorem ok_J7_fill_d0a16 : am_OK MJ7_fill_d0a16 := ⟨by decide +kernel, rfl, am_in 45 (by decide +kernel) rfl, ⟨by decide +kernel, by decide +kernel⟩, am_in 574 (by decide +kernel) rfl, by decide⟩
theorem na_J7_fill_d0a16 : am_NA MJ7_fill_d0a16 2 := by unfold am_NA; decide +kernel
theorem ok_J7_fill_53178 : am_OK MJ7_fill_53178 := ⟨by decide +kernel, rfl, am_in 45 (by decide +kernel) rfl, ⟨by decide +kernel, by decide +kernel⟩, am_in 430 (by decide +kernel) rfl, by decide⟩
theorem na_J7_fill_53178 : am_NA MJ7_fill_53178 2 := by unfold am_NA; decide +kernel
theorem ok_L_at : am_OK ML_at := ⟨by decide +kernel, rfl, am_in 29 (by decide +kernel) rfl, ⟨by decide +kernel, by decide +kernel⟩, am_in 243 (by decide +kernel) rfl, by decide⟩
theorem na_L_at : am_NA ML_at 2 := by unfold am_NA; decide +kernel
theorem ok_L_low : am_OK ML_low := ⟨by decide +kernel, rfl, am_in 29 (by decide +kernel) rfl, ⟨by decide +kernel, by decide +kernel⟩, am_in 476 (by decide +kernel) rfl, by decide⟩
theorem na_L_low : am_NA ML_low 2 := by unfold am_NA; decide +kernel
theorem ok_L_put : am_OK ML_put := ⟨by decide +kernel, rfl, am_in 29 (by decide +kernel) rfl, ⟨by decide +kernel, by decide +kernel⟩, am_in 483 (by decide +kernel) rfl, by decide⟩
theorem na_L_put : am_NA ML_put 3 := by unfold am_NA; decide +kernel
theorem ok_L_pair : am_OK ML_pair := ⟨by decide +kernel, rfl, am_in 29 (by decide +kernel) rfl, ⟨by decide +kernel, by decide +kernel⟩, am_in 521 (by decide +kernel) rfl, by decide⟩
theorem na_L_pair : am_NA ML_pair 1 := by unfold am_NA; decide +kernel
theorem ok_L_takeBack : am_OK ML_takeBack := ⟨by decide +kernel, rfl, am_in 29 (by decide +kernel) rfl, ⟨by decide +kernel, by decide +kernel⟩, am_in 688 (by decide +kernel) rfl, by decide⟩
theorem na_L_takeBack : am_NA ML_takeBack 2 := by unfold am_NA; decide +kernel
theorem ok_L_weight : am_OK ML_weight := ⟨by decide +kernel, rfl, am_in 29 (by decide +kernel) rfl, ⟨by decide +kernel, by decide +kernel⟩, am_in 654 (by decide +kernel) rfl, by decide⟩
theorem na_L_weight : am_NA ML_weight 3 := by unfold am_NA; decide +kernel
theorem ok_L_word : am_OK ML_word := ⟨by decide +kernel, rfl, am_in 29 (by decide +kernel) rfl, ⟨by decide +kernel, by decide +kernel⟩, am_in 553 (by decide +kernel) rfl, by decide⟩
theorem na_L_word : am_NA ML_word 4 := by unfold am_NA; decide +kernel
theorem ok_L_share : am_OK ML_share := ⟨by decide +kernel, rfl, am_in 29 (by decide +kernel) rfl, ⟨by decide +kernel, by decide +kernel⟩, am_in 251 (by decide +kernel) rfl, by decide⟩
theorem na_L_share : am_NA ML_share 4 := by unfold am_NA; decide +kernel
theorem ok_L_link : am_OK ML_link := ⟨by decide +kernel, rfl, am_in 29 (by decide +kernel) rfl, ⟨by decide +kernel, by decide +kernel⟩, am_in 349 (by decide +kernel) rfl, by decide⟩
theorem na_L_link : am_NA ML_link 4 := by unfold am_NA; decide +kernel
theorem ok_L_isJoined : am_OK ML_isJoined := ⟨by decide +kernel, rfl, am_in 29 (by decide +kernel) rfl, ⟨by decide +kernel, by decide +kernel⟩, am_in 412 (by decide +kernel) rfl, by decide⟩
theorem na_L_isJoined : am_NA ML_isJoined 4 := by unfold am_NA; decide +kernel
theorem ok_L_phrases : am_OK ML_phrases := ⟨by decide +kernel, rfl, am_in 29 (by decide +kernel) rfl, ⟨by decide +kernel, by decide +kernel⟩, am_in 699 (by decide +kernel) rfl, by decide⟩
theorem na_L_phrases : am_NA ML_phrases 2 := by unfold am_NA; decide +kernel
theorem ok_L_phrase : am_OK ML_phrase := ⟨by decide +kernel, rfl, am_in 29 (by decide +kernel) rfl, ⟨by decide +kernel, by decide +kernel⟩, am_in 793 (by decide +kernel) rfl, by decide⟩
theorem na_L_phrase : am_NA ML_phrase 4 := by unfold am_NA; decide +kernel
theorem ok_L_fertility : am_OK ML_fertility := ⟨by decide +kernel, rfl, am_in 29 (by decide +kernel) rfl, ⟨by decide +kernel, by decide +kernel⟩, am_in 809 (by decide +kernel) rfl, by decide⟩
theorem na_L_fertility : am_NA ML_fertility 3 := by unfold am_NA; decide +kernel
theorem ok_L_total : am_OK ML_total := ⟨by decide +kernel, rfl, am_in 29 (by decide +kernel) rfl, ⟨by decide +kernel, by decide +kernel⟩, am_in 739 (by decide +kernel) rfl, by decide⟩
theorem na_L_total : am_NA ML_total 2 := by unfold am_NA; decide +kernel
theorem ok_L_totalAnew : am_OK ML_totalAnew := ⟨by decide +kernel, rfl, am_in 29 (by decide +kernel) rfl, ⟨by decide +kernel, by decide +kernel⟩, am_in 776 (by decide +kernel) rfl, by decide⟩
theorem na_L_totalAnew : am_NA ML_totalAnew 2 := by unfold am_NA; decide +kernel
theorem ok_L_areShares : am_OK ML_areShares := ⟨by decide +kernel, rfl, am_in 29 (by decide +kernel) rfl, ⟨by decide +kernel, by decide +kernel⟩, am_in 248 (by decide +kernel) rfl, by decide⟩
theorem na_L_areShares : am_NA ML_areShares 1 := by unfold am_NA; decide +kernel
theorem ok_L_areLinks : am_OK ML_areLinks := ⟨by decide +kernel, rfl, am_in 29 (by decide +kernel) rfl, ⟨by decide +kernel, by decide +kernel⟩, am_in 346 (by decide +kernel) rfl, by decide⟩
theorem na_L_areLinks : am_NA ML_areLinks 3 := by unfold am_NA; decide +kernel
theorem ok_L_arePhrases : am_OK ML_arePhrases := ⟨by decide +kernel, rfl, am_in 29 (by decide +kernel) rfl, ⟨by decide +kernel, by decide +kernel⟩, am_in 790 (by decide +kernel) rfl, by decide⟩
theorem na_L_arePhrases : am_NA ML_arePhrases 3 := by unfold am_NA; decide +kernel
theorem ok_L_areFertile : am_OK ML_areFertile := ⟨by decide +kernel, rfl, am_in 29 (by decide +kernel) rfl, ⟨by decide +kernel, by decide +kernel⟩, am_in 806 (by decide +kernel) rfl, by decide⟩
theorem na_L_areFertile : am_NA ML_areFertile 4 := by unfold am_NA; decide +kernel
theorem ok_L_puts : am_OK ML_puts := ⟨by decide +kernel, rfl, am_in 29 (by decide +kernel) rfl, ⟨by decide +kernel, by decide +kernel⟩, am_in 480 (by decide +kernel) rfl, by decide⟩
theorem na_L_puts : am_NA ML_puts 4 := by unfold am_NA; decide +kernel
theorem ok_L_pairs : am_OK ML_pairs := ⟨by decide +kernel, rfl, am_in 29 (by decide +kernel) rfl, ⟨by decide +kernel, by decide +kernel⟩, am_in 518 (by decide +kernel) rfl, by decide⟩
theorem na_L_pairs : am_NA ML_pairs 5 := by unfold am_NA; decide +kernel
theorem ok_L_empties : am_OK ML_empties := ⟨by decide +kernel, rfl, am_in 29 (by decide +kernel) rfl, ⟨by decide +kernel, by decide +kernel⟩, am_in 550 (by decide +kernel) rfl, by decide⟩
theorem na_L_empties : am_NA ML_empties 1 := by unfold am_NA; decide +kernel
theorem ok_L_acts : am_OK ML_acts := ⟨by decide +kernel, rfl, am_in 29 (by decide +kernel) rfl, ⟨by decide +kernel, by decide +kernel⟩, am_in 473 (by decide +kernel) rfl, by decide⟩
theorem na_L_acts : am_NA ML_acts 7 := by unfold am_NA; decide +kernel
theorem fl_RX1_11 : am_FL RX1 11 1 0 := ⟨_, rfl, by decide, am_in 65 (by decide +kernel) rfl⟩
theorem fl_RX1_17 : am_FL RX1 17 1 1 := ⟨_, rfl, by decide, am_in 66 (by decide +kernel) rfl⟩
theorem fl_RX1_21 : am_FL RX1 21 1 2 := ⟨_, rfl, by decide, am_in 67 (by decide +kernel) rfl⟩
theorem fl_RX2_25 : am_FL RX2 25 2 0 := ⟨_, rfl, by decide, am_in 87 (by decide +kernel) rfl⟩
theorem fl_RX2_9 : am_FL RX2 9 2 1 := ⟨_, rfl, by decide, am_in 88 (by decide +kernel) rfl⟩
theorem fl_RX2_15 : am_FL RX2 15 2 2 := ⟨_, rfl, by decide, am_in 89 (by decide +kernel) rfl⟩
theorem fl_RX2_19 : am_FL RX2 19 2 3 := ⟨_, rfl, by decide, am_in 90 (by decide +kernel) rfl⟩
theorem fl_RX2_22 : am_FL RX2 22 2 4 := ⟨_, rfl, by decide, am_in 91 (by decide +kernel) rfl⟩
theorem fl_RX8_18 : am_FL RX8 18 8 0 := ⟨_, rfl, by decide, am_in 120 (by decide +kernel) rfl⟩
theorem fl_RX4_14 : am_FL RX4 14 4 0 := ⟨_, rfl, by decide, am_in 124 (by decide +kernel) rfl⟩
theorem fl_RX4_20 : am_FL RX4 20 4 1 := ⟨_, rfl, by decide, am_in 125 (by decide +kernel) rfl⟩
theorem fl_RX4_26 : am_FL RX4 26 4 2 := ⟨_, rfl, by decide, am_in 126 (by decide +kernel) rfl⟩
theorem fl_RX0_9 : am_FL RX0 9 0 0 := ⟨_, rfl, by decide, am_in 140 (by decide +kernel) rfl⟩
theorem fl_RX0_15 : am_FL RX0 15 0 1 := ⟨_, rfl, by decide, am_in 141 (by decide +kernel) rfl⟩
theorem fl_RX0_18 : am_FL RX0 18 0 2 := ⟨_, rfl, by decide, am_in 142 (by decide +kernel) rfl⟩
theorem fl_RX0_21 : am_FL RX0 21 0 3 := ⟨_, rfl, by decide, am_in 143 (by decide +kernel) rfl⟩
theorem fl_RX0_25 : am_FL RX0 25 0 4 := ⟨_, rfl, by decide, am_in 144 (by decide +kernel) rfl⟩
theorem fl_RX5_9 : am_FL RX5 9 5 0 := ⟨_, rfl, by decide, am_in 162 (by decide +kernel) rfl⟩
theorem fl_RX5_15 : am_FL RX5 15 5 1 := ⟨_, rfl, by decide, am_in 163 (by decide +kernel) rfl⟩
theorem fl_RX3_9 : am_FL RX3 9 3 0 := ⟨_, rfl, by decide, am_in 175 (by decide +kernel) rfl⟩
theorem fl_RX3_33 : am_FL RX3 33 3 1 := ⟨_, rfl, by decide, am_in 176 (by decide +kernel) rfl⟩
theorem fl_RX3_37 : am_FL RX3 37 3 2 := ⟨_, rfl, by decide, am_in 177 (by decide +kernel) rfl⟩
theorem fl_RX6_9 : am_FL RX6 9 6 0 := ⟨_, rfl, by decide, am_in 197 (by decide +kernel) rfl⟩
theorem fl_RX6_15 : am_FL RX6 15 6 1 := ⟨_, rfl, by decide, am_in 198 (by decide +kernel) rfl⟩
theorem fl_RX7_10 : am_FL RX7 10 7 0 := ⟨_, rfl, by decide, am_in 204 (by decide +kernel) rfl⟩
theorem fl_RX7_16 : am_FL RX7 16 7 1 := ⟨_, rfl, by decide, am_in 205 (by decide +kernel) rfl⟩
theorem fl_RX7_19 : am_FL RX7 19 7 2 := ⟨_, rfl, by decide, am_in 206 (by decide +kernel) rfl⟩
theorem fl_RX9_12 : am_FL RX9 12 9 0 := ⟨_, rfl, by decide, am_in 214 (by decide +kernel) rfl⟩
theorem fl_RX9_19 : am_FL RX9 19 9 1 := ⟨_, rfl, by decide, am_in 215 (by decide +kernel) rfl⟩
theorem fl_RX9_26 : am_FL RX9 26 9 2 := ⟨_, rfl, by decide, am_in 216 (by decide +kernel) rfl⟩
theorem fl_RX9_33 : am_FL RX9 33 9 3 := ⟨_, rfl, by decide, am_in 217 (by decide +kernel) rfl⟩
theorem fl_RX9_40 : am_FL RX9 40 9 4 := ⟨_, rfl, by decide, am_in 218 (by decide +kernel) rfl⟩
theorem fl_RX9_47 : am_FL RX9 47 9 5 := ⟨_, rfl, by decide, am_in 219 (by decide +kernel) rfl⟩
theorem fit_0_0 (x : Nat) : am_fit 0 0 (.ref x) := fun q hq => by cases hq; exact ⟨_, tyX0_ok 0 (by decide), fun _ => ⟨rfl, rfl⟩⟩
theorem fit_0_1 (x : Nat) : am_fit 0 1 (.ref x) := fun q hq => by cases hq; exact ⟨_, tyX0_ok 1 (by decide), fun _ => ⟨rfl, rfl⟩⟩
theorem fit_0_2 (x : Nat) : am_fit 0 2 (.ref x) := fun q hq => by cases hq; exact ⟨_, tyX0_ok 2 (by decide), fun _ => ⟨rfl, rfl⟩⟩
theorem fit_0_3 (x : Int32) : am_fit 0 3 (.int x) := fun q hq => by cases hq; exact ⟨_, tyX0_ok 3 (by decide), fun _ => ⟨rfl, rfl⟩⟩
theorem fit_0_4 (x : Int32) : am_fit 0 4 (.int x) := fun q hq => by cases hq; exact ⟨_, tyX0_ok 4 (by decide), fun _ => ⟨rfl, rfl⟩⟩
theorem fit_1_0 (x : Nat) : am_fit 1 0 (.ref x) := fun q hq => by cases hq; exact ⟨_, tyX1_ok 0 (by decide), fun _ => ⟨rfl, rfl⟩⟩
theorem fit_1_1 (x : Int32) : am_fit 1 1 (.int x) := fun q hq => by cases hq; exact ⟨_, tyX1_ok 1 (by decide), fun _ => ⟨rfl, rfl⟩⟩
theorem fit_1_2 (x : Int32) : am_fit 1 2 (.int x) := fun q hq => by cases hq; exact ⟨_, tyX1_ok 2 (by decide), fun _ => ⟨rfl, rfl⟩⟩
theorem fit_2_0 (x : Int32) : am_fit 2 0 (.int x) := fun q hq => by cases hq; exact ⟨_, tyX2_ok 0 (by decide), fun _ => ⟨rfl, rfl⟩⟩
theorem fit_2_1 (x : Nat) : am_fit 2 1 (.ref x) := fun q hq => by cases hq; exact ⟨_, tyX2_ok 1 (by decide), fun _ => ⟨rfl, rfl⟩⟩
theorem fit_2_2 (x : Nat) : am_fit 2 2 (.ref x) := fun q hq => by cases hq; exact ⟨_, tyX2_ok 2 (by decide), fun _ => ⟨rfl, rfl⟩⟩
theorem fit_2_3 (x : Nat) : am_fit 2 3 (.ref x) := fun q hq => by cases hq; exact ⟨_, tyX2_ok 3 (by decide), fun _ => ⟨rfl, rfl⟩⟩
theorem fit_2_4 (x : Nat) : am_fit 2 4 (.ref x) := fun q hq => by cases hq; exact ⟨_, tyX2_ok 4 (by decide), fun _ => ⟨rfl, rfl⟩⟩
theorem fit_3_0 (x : Nat) : am_fit 3 0 (.ref x) := fun q hq => by cases hq; exact ⟨_, tyX3_ok 0 (by decide), fun _ => ⟨rfl, rfl⟩⟩
theorem fit_3_1 (x : Int32) : am_fit 3 1 (.int x) := fun q hq => by cases hq; exact ⟨_, tyX3_ok 1 (by decide), fun _ => ⟨rfl, rfl⟩⟩
theorem fit_3_2 (x : Int32) : am_fit 3 2 (.int x) := fun q hq => by cases hq; exact ⟨_, tyX3_ok 2 (by decide), fun _ => ⟨rfl, rfl⟩⟩
theorem fit_4_0 (x : Nat) : am_fit 4 0 (.ref x) := fun q hq => by cases hq; exact ⟨_, tyX4_ok 0 (by decide), fun _ => ⟨rfl, rfl⟩⟩
theorem fit_4_1 (x : Nat) : am_fit 4 1 (.ref x) := fun q hq => by cases hq; exact ⟨_, tyX4_ok 1 (by decide), fun _ => ⟨rfl, rfl⟩⟩
theorem fit_4_2 (x : Nat) : am_fit 4 2 (.ref x) := fun q hq => by cases hq; exact ⟨_, tyX4_ok 2 (by decide), fun _ => ⟨rfl, rfl⟩⟩
theorem fit_5_0 (x : Nat) : am_fit 5 0 (.ref x) := fun q hq => by cases hq; exact ⟨_, tyX5_ok 0 (by decide), fun _ => ⟨rfl, rfl⟩⟩
theorem fit_5_1 (x : Int32) : am_fit 5 1 (.int x) := fun q hq => by cases hq; exact ⟨_, tyX5_ok 1 (by decide), fun _ => ⟨rfl, rfl⟩⟩
theorem fit_6_0 (x : Nat) : am_fit 6 0 (.ref x) := fun q hq => by cases hq; exact ⟨_, tyX6_ok 0 (by decide), fun _ => ⟨rfl, rfl⟩⟩
theorem fit_6_1 (x : Int32) : am_fit 6 1 (.int x) := fun q hq => by cases hq; exact ⟨_, tyX6_ok 1 (by decide), fun _ => ⟨rfl, rfl⟩⟩
theorem fit_7_0 (x : Nat) : am_fit 7 0 (.ref x) := fun q hq => by cases hq; exact ⟨_, tyX7_ok 0 (by decide), fun _ => ⟨rfl, rfl⟩⟩
theorem fit_7_1 (x : Nat) : am_fit 7 1 (.ref x) := fun q hq => by cases hq; exact ⟨_, tyX7_ok 1 (by decide), fun _ => ⟨rfl, rfl⟩⟩
theorem fit_7_2 (x : Int32) (hx : x = 0 ∨ x = 1) : am_fit 7 2 (.int x) := fun q hq => by cases hq; exact ⟨_, tyX7_ok 2 (by decide), fun _ => by rcases hx with rfl | rfl <;> exact ⟨rfl, rfl⟩⟩
theorem fit_8_0 (x : Nat) : am_fit 8 0 (.ref x) := fun q hq => by cases hq; exact ⟨_, tyX8_ok 0 (by decide), fun _ => ⟨rfl, rfl⟩⟩
theorem fit_9_0 (x : Nat) : am_fit 9 0 (.ref x) := fun q hq => by cases hq; exact ⟨_, tyX9_ok 0 (by decide), fun _ => ⟨rfl, rfl⟩⟩
theorem fit_9_1 (x : Nat) : am_fit 9 1 (.ref x) := fun q hq => by cases hq; exact ⟨_, tyX9_ok 1 (by decide), fun _ => ⟨rfl, rfl⟩⟩
theorem fit_9_2 (x : Nat) : am_fit 9 2 (.ref x) := fun q hq => by cases hq; exact ⟨_, tyX9_ok 2 (by decide), fun _ => ⟨rfl, rfl⟩⟩
theorem fit_9_3 (x : Nat) : am_fit 9 3 (.ref x) := fun q hq => by cases hq; exact ⟨_, tyX9_ok 3 (by decide), fun _ => ⟨rfl, rfl⟩⟩
theorem fit_9_4 (x : Nat) : am_fit 9 4 (.ref x) := fun q hq => by cases hq; exact ⟨_, tyX9_ok 4 (by decide), fun _ => ⟨rfl, rfl⟩⟩
theorem fit_9_5 (x : Nat) : am_fit 9 5 (.ref x) := fun q hq => by cases hq; exact ⟨_, tyX9_ok 5 (by decide), fun _ => ⟨rfl, rfl⟩⟩
theorem st_RX9_11 : am_SN RX9 11 MX1_init := ⟨by decide +kernel, ok_X1_init, rfl, rfl, rfl, am_in 60 (by decide +kernel) rfl⟩
theorem st_RX9_18 : am_SN RX9 18 MX4_init := ⟨by decide +kernel, ok_X4_init, rfl, rfl, rfl, am_in 78 (by decide +kernel) rfl⟩
theorem st_RX9_25 : am_SN RX9 25 MX0_init := ⟨by decide +kernel, ok_X0_init, rfl, rfl, rfl, am_in 137 (by decide +kernel) rfl⟩
theorem st_RX9_32 : am_SN RX9 32 MX5_init := ⟨by decide +kernel, ok_X5_init, rfl, rfl, rfl, am_in 159 (by decide +kernel) rfl⟩
theorem st_RX9_39 : am_SN RX9 39 MX3_init := ⟨by decide +kernel, ok_X3_init, rfl, rfl, rfl, am_in 172 (by decide +kernel) rfl⟩
theorem st_RX9_46 : am_SN RX9 46 MX7_init := ⟨by decide +kernel, ok_X7_init, rfl, rfl, rfl, am_in 188 (by decide +kernel) rfl⟩
theorem st_RX9_51 : am_SS RX9 51 MX9_isSide := ⟨am_in 257 (by decide +kernel) rfl, ok_X9_isSide, rfl, am_in 258 (by decide +kernel) rfl⟩
theorem st_RX9_55 : am_SS RX9 55 MX9_isWord := ⟨am_in 260 (by decide +kernel) rfl, ok_X9_isWord, rfl, am_in 261 (by decide +kernel) rfl⟩
theorem st_RX9_65 : am_SV RX9 65 MX7_ofSide := ⟨am_in 367 (by decide +kernel) rfl, ok_X7_ofSide, rfl, am_in 368 (by decide +kernel) rfl, am_in 369 (by decide +kernel) rfl⟩
theorem st_RX9_69 : am_SV RX9 69 MX6_isFull := ⟨am_in 490 (by decide +kernel) rfl, ok_X6_isFull, rfl, am_in 491 (by decide +kernel) rfl, am_in 492 (by decide +kernel) rfl⟩
theorem st_RX9_80 : am_SV RX9 80 MX6_append := ⟨am_in 510 (by decide +kernel) rfl, ok_X6_append, rfl, am_in 511 (by decide +kernel) rfl, am_in 512 (by decide +kernel) rfl⟩
theorem st_RX9_84 : am_SV RX9 84 MX6_length := ⟨am_in 514 (by decide +kernel) rfl, ok_X6_length, rfl, am_in 388 (by decide +kernel) rfl, am_in 389 (by decide +kernel) rfl⟩
theorem st_RX9_88 : am_SV RX9 88 MX6_clear := ⟨am_in 544 (by decide +kernel) rfl, ok_X6_clear, rfl, am_in 545 (by decide +kernel) rfl, am_in 546 (by decide +kernel) rfl⟩
theorem st_RX9_93 : am_SV RX9 93 MX1_isFull := ⟨am_in 527 (by decide +kernel) rfl, ok_X1_isFull, rfl, am_in 528 (by decide +kernel) rfl, am_in 529 (by decide +kernel) rfl⟩
theorem st_RX9_96 : am_SV RX9 96 MX1_add := ⟨am_in 532 (by decide +kernel) rfl, ok_X1_add, rfl, am_in 533 (by decide +kernel) rfl, am_in 534 (by decide +kernel) rfl⟩
theorem st_RX9_100 : am_SV RX9 100 MX9_pairThatIsThere := ⟨am_in 354 (by decide +kernel) rfl, ok_X9_pairThatIsThere, rfl, am_in 356 (by decide +kernel) rfl, am_in 1 (by decide +kernel) rfl⟩
theorem st_RX9_104 : am_SV RX9 104 MX1_remove := ⟨am_in 693 (by decide +kernel) rfl, ok_X1_remove, rfl, am_in 694 (by decide +kernel) rfl, am_in 695 (by decide +kernel) rfl⟩
theorem st_RX9_108 : am_SV RX9 108 MX1_size := ⟨am_in 237 (by decide +kernel) rfl, ok_X1_size, rfl, am_in 238 (by decide +kernel) rfl, am_in 239 (by decide +kernel) rfl⟩
theorem st_RX9_111 : am_SV RX9 111 MX4_lexicon := ⟨am_in 331 (by decide +kernel) rfl, ok_X4_lexicon, rfl, am_in 332 (by decide +kernel) rfl, am_in 333 (by decide +kernel) rfl⟩
theorem st_RX9_115 : am_SV RX9 115 MX2_start := ⟨am_in 564 (by decide +kernel) rfl, ok_X2_start, rfl, am_in 565 (by decide +kernel) rfl, am_in 566 (by decide +kernel) rfl⟩
theorem st_RX9_121 : am_SV RX9 121 MX2_learn := ⟨am_in 631 (by decide +kernel) rfl, ok_X2_learn, rfl, am_in 632 (by decide +kernel) rfl, am_in 633 (by decide +kernel) rfl⟩
theorem st_RX9_131 : am_SV RX9 131 MX4_setWeight := ⟨am_in 677 (by decide +kernel) rfl, ok_X4_setWeight, rfl, am_in 678 (by decide +kernel) rfl, am_in 679 (by decide +kernel) rfl⟩
theorem st_RX9_137 : am_SV RX9 137 MX6_at := ⟨am_in 559 (by decide +kernel) rfl, ok_X6_at, rfl, am_in 383 (by decide +kernel) rfl, am_in 384 (by decide +kernel) rfl⟩
theorem st_RX9_143 : am_SV RX9 143 MX2_shareOf := ⟨am_in 335 (by decide +kernel) rfl, ok_X2_shareOf, rfl, am_in 336 (by decide +kernel) rfl, am_in 337 (by decide +kernel) rfl⟩
theorem st_RX9_146 : am_SV RX9 146 MX6_has := ⟨am_in 371 (by decide +kernel) rfl, ok_X6_has, rfl, am_in 372 (by decide +kernel) rfl, am_in 373 (by decide +kernel) rfl⟩
theorem st_RX9_151 : am_SV RX9 151 MX4_answerFor := ⟨am_in 376 (by decide +kernel) rfl, ok_X4_answerFor, rfl, am_in 377 (by decide +kernel) rfl, am_in 378 (by decide +kernel) rfl⟩
theorem st_RX9_157 : am_SV RX9 157 MX0_align := ⟨am_in 418 (by decide +kernel) rfl, ok_X0_align, rfl, am_in 419 (by decide +kernel) rfl, am_in 420 (by decide +kernel) rfl⟩
theorem st_RX9_161 : am_SV RX9 161 MX0_hasJoined := ⟨am_in 470 (by decide +kernel) rfl, ok_X0_hasJoined, rfl, am_in 451 (by decide +kernel) rfl, am_in 452 (by decide +kernel) rfl⟩
theorem st_RX9_165 : am_SV RX9 165 MX5_seek := ⟨am_in 704 (by decide +kernel) rfl, ok_X5_seek, rfl, am_in 705 (by decide +kernel) rfl, am_in 706 (by decide +kernel) rfl⟩
theorem st_RX9_169 : am_SV RX9 169 MX5_count := ⟨am_in 733 (by decide +kernel) rfl, ok_X5_count, rfl, am_in 734 (by decide +kernel) rfl, am_in 735 (by decide +kernel) rfl⟩
theorem st_RX9_176 : am_SV RX9 176 MX5_endOfFound := ⟨am_in 800 (by decide +kernel) rfl, ok_X5_endOfFound, rfl, am_in 801 (by decide +kernel) rfl, am_in 802 (by decide +kernel) rfl⟩
theorem st_RX9_183 : am_SV RX9 183 MX1_made := ⟨am_in 816 (by decide +kernel) rfl, ok_X1_made, rfl, am_in 576 (by decide +kernel) rfl, am_in 577 (by decide +kernel) rfl⟩
theorem st_RX9_186 : am_SV RX9 186 MX1_find := ⟨am_in 358 (by decide +kernel) rfl, ok_X1_find, rfl, am_in 359 (by decide +kernel) rfl, am_in 360 (by decide +kernel) rfl⟩
theorem st_RX9_189 : am_SV RX9 189 MX9_placesWith := ⟨am_in 817 (by decide +kernel) rfl, ok_X9_placesWith, rfl, am_in 819 (by decide +kernel) rfl, am_in 28 (by decide +kernel) rfl⟩
theorem st_RX9_193 : am_SV RX9 193 MX9_shortPair := ⟨am_in 744 (by decide +kernel) rfl, ok_X9_shortPair, rfl, am_in 746 (by decide +kernel) rfl, am_in 26 (by decide +kernel) rfl⟩
theorem st_RX9_196 : am_SV RX9 196 MX3_consider := ⟨am_in 749 (by decide +kernel) rfl, ok_X3_consider, rfl, am_in 750 (by decide +kernel) rfl, am_in 751 (by decide +kernel) rfl⟩
theorem st_RX9_200 : am_SV RX9 200 MX3_productOfSums := ⟨am_in 765 (by decide +kernel) rfl, ok_X3_productOfSums, rfl, am_in 766 (by decide +kernel) rfl, am_in 767 (by decide +kernel) rfl⟩
theorem st_RX9_204 : am_SV RX9 204 MX3_sumOfProducts := ⟨am_in 781 (by decide +kernel) rfl, ok_X3_sumOfProducts, rfl, am_in 782 (by decide +kernel) rfl, am_in 783 (by decide +kernel) rfl⟩
theorem st_RX9_211 : am_SV RX9 211 MX0_joinedOf := ⟨am_in 821 (by decide +kernel) rfl, ok_X0_joinedOf, rfl, am_in 822 (by decide +kernel) rfl, am_in 823 (by decide +kernel) rfl⟩
theorem st_RX0_28 : am_SS RX0 28 MX0_bitsAt := ⟨am_in 439 (by decide +kernel) rfl, ok_X0_bitsAt, rfl, am_in 440 (by decide +kernel) rfl⟩
theorem st_RX0_32 : am_SV RX0 32 MX0_joinedBits := ⟨am_in 454 (by decide +kernel) rfl, ok_X0_joinedBits, rfl, am_in 455 (by decide +kernel) rfl, am_in 456 (by decide +kernel) rfl⟩
theorem st_RX0_36 : am_SS RX0 36 MJ6_bitCount_0f7a4 := ⟨am_in 825 (by decide +kernel) rfl, ok_J6_bitCount_0f7a4, rfl, am_in 826 (by decide +kernel) rfl⟩
theorem st_RX0_41 : am_SS RX0 41 MX0_bitOf := ⟨am_in 436 (by decide +kernel) rfl, ok_X0_bitOf, rfl, am_in 437 (by decide +kernel) rfl⟩
theorem st_RX0_44 : am_SV RX0 44 MX7_ofSide := ⟨am_in 422 (by decide +kernel) rfl, ok_X7_ofSide, rfl, am_in 368 (by decide +kernel) rfl, am_in 369 (by decide +kernel) rfl⟩
theorem st_RX0_50 : am_SV RX0 50 MX6_length := ⟨am_in 423 (by decide +kernel) rfl, ok_X6_length, rfl, am_in 388 (by decide +kernel) rfl, am_in 389 (by decide +kernel) rfl⟩
theorem st_RX0_56 : am_SV RX0 56 MX0_takeLinks := ⟨am_in 424 (by decide +kernel) rfl, ok_X0_takeLinks, rfl, am_in 426 (by decide +kernel) rfl, am_in 2 (by decide +kernel) rfl⟩
theorem st_RX0_60 : am_SV RX0 60 MX0_growOnce := ⟨am_in 442 (by decide +kernel) rfl, ok_X0_growOnce, rfl, am_in 444 (by decide +kernel) rfl, am_in 4 (by decide +kernel) rfl⟩
theorem st_RX0_64 : am_SS RX0 64 MJ7_fill_53178 := ⟨am_in 428 (by decide +kernel) rfl, ok_J7_fill_53178, rfl, am_in 429 (by decide +kernel) rfl⟩
theorem st_RX0_70 : am_SV RX0 70 MX4_answerFor := ⟨am_in 431 (by decide +kernel) rfl, ok_X4_answerFor, rfl, am_in 377 (by decide +kernel) rfl, am_in 378 (by decide +kernel) rfl⟩
theorem st_RX0_76 : am_SV RX0 76 MX0_takeLink := ⟨am_in 432 (by decide +kernel) rfl, ok_X0_takeLink, rfl, am_in 434 (by decide +kernel) rfl, am_in 3 (by decide +kernel) rfl⟩
theorem st_RX0_80 : am_SV RX0 80 MX0_isToJoin := ⟨am_in 446 (by decide +kernel) rfl, ok_X0_isToJoin, rfl, am_in 448 (by decide +kernel) rfl, am_in 5 (by decide +kernel) rfl⟩
theorem st_RX0_84 : am_SV RX0 84 MX0_join := ⟨am_in 466 (by decide +kernel) rfl, ok_X0_join, rfl, am_in 468 (by decide +kernel) rfl, am_in 8 (by decide +kernel) rfl⟩
theorem st_RX0_87 : am_SV RX0 87 MX0_hasJoined := ⟨am_in 450 (by decide +kernel) rfl, ok_X0_hasJoined, rfl, am_in 451 (by decide +kernel) rfl, am_in 452 (by decide +kernel) rfl⟩
theorem st_RX0_90 : am_SV RX0 90 MX0_isFree := ⟨am_in 458 (by decide +kernel) rfl, ok_X0_isFree, rfl, am_in 460 (by decide +kernel) rfl, am_in 6 (by decide +kernel) rfl⟩
theorem st_RX0_94 : am_SV RX0 94 MX0_isBesideJoined := ⟨am_in 462 (by decide +kernel) rfl, ok_X0_isBesideJoined, rfl, am_in 464 (by decide +kernel) rfl, am_in 7 (by decide +kernel) rfl⟩
theorem st_RX1_24 : am_SV RX1 24 MX7_setThere := ⟨am_in 536 (by decide +kernel) rfl, ok_X7_setThere, rfl, am_in 537 (by decide +kernel) rfl, am_in 538 (by decide +kernel) rfl⟩
theorem st_RX1_28 : am_SV RX1 28 MX7_isThere := ⟨am_in 362 (by decide +kernel) rfl, ok_X7_isThere, rfl, am_in 363 (by decide +kernel) rfl, am_in 364 (by decide +kernel) rfl⟩
theorem st_RX2_29 : am_SS RX2 29 MX2_cellOf := ⟨am_in 339 (by decide +kernel) rfl, ok_X2_cellOf, rfl, am_in 340 (by decide +kernel) rfl⟩
theorem st_RX2_33 : am_SV RX2 33 MX2_countMeetings := ⟨am_in 568 (by decide +kernel) rfl, ok_X2_countMeetings, rfl, am_in 570 (by decide +kernel) rfl, am_in 9 (by decide +kernel) rfl⟩
theorem st_RX2_37 : am_SV RX2 37 MX2_apportionAll := ⟨am_in 591 (by decide +kernel) rfl, ok_X2_apportionAll, rfl, am_in 593 (by decide +kernel) rfl, am_in 12 (by decide +kernel) rfl⟩
theorem st_RX2_41 : am_SV RX2 41 MX2_sharesAboveZero := ⟨am_in 623 (by decide +kernel) rfl, ok_X2_sharesAboveZero, rfl, am_in 625 (by decide +kernel) rfl, am_in 19 (by decide +kernel) rfl⟩
theorem st_RX2_44 : am_SV RX2 44 MX2_countAnswers := ⟨am_in 635 (by decide +kernel) rfl, ok_X2_countAnswers, rfl, am_in 637 (by decide +kernel) rfl, am_in 20 (by decide +kernel) rfl⟩
theorem st_RX2_47 : am_SS RX2 47 MJ7_fill_d0a16 := ⟨am_in 572 (by decide +kernel) rfl, ok_J7_fill_d0a16, rfl, am_in 573 (by decide +kernel) rfl⟩
theorem st_RX2_53 : am_SV RX2 53 MX1_made := ⟨am_in 575 (by decide +kernel) rfl, ok_X1_made, rfl, am_in 576 (by decide +kernel) rfl, am_in 577 (by decide +kernel) rfl⟩
theorem st_RX2_58 : am_SV RX2 58 MX1_find := ⟨am_in 579 (by decide +kernel) rfl, ok_X1_find, rfl, am_in 359 (by decide +kernel) rfl, am_in 360 (by decide +kernel) rfl⟩
theorem st_RX2_62 : am_SV RX2 62 MX7_ofSide := ⟨am_in 580 (by decide +kernel) rfl, ok_X7_ofSide, rfl, am_in 368 (by decide +kernel) rfl, am_in 369 (by decide +kernel) rfl⟩
theorem st_RX2_68 : am_SV RX2 68 MX2_meetAll := ⟨am_in 581 (by decide +kernel) rfl, ok_X2_meetAll, rfl, am_in 583 (by decide +kernel) rfl, am_in 10 (by decide +kernel) rfl⟩
theorem st_RX2_72 : am_SV RX2 72 MX6_length := ⟨am_in 585 (by decide +kernel) rfl, ok_X6_length, rfl, am_in 388 (by decide +kernel) rfl, am_in 389 (by decide +kernel) rfl⟩
theorem st_RX2_77 : am_SV RX2 77 MX6_at := ⟨am_in 586 (by decide +kernel) rfl, ok_X6_at, rfl, am_in 383 (by decide +kernel) rfl, am_in 384 (by decide +kernel) rfl⟩
theorem st_RX2_81 : am_SV RX2 81 MX2_meet := ⟨am_in 587 (by decide +kernel) rfl, ok_X2_meet, rfl, am_in 589 (by decide +kernel) rfl, am_in 11 (by decide +kernel) rfl⟩
theorem st_RX2_85 : am_SV RX2 85 MX2_answerAll := ⟨am_in 639 (by decide +kernel) rfl, ok_X2_answerAll, rfl, am_in 641 (by decide +kernel) rfl, am_in 21 (by decide +kernel) rfl⟩
theorem st_RX2_88 : am_SV RX2 88 MX2_sumOfShares := ⟨am_in 643 (by decide +kernel) rfl, ok_X2_sumOfShares, rfl, am_in 645 (by decide +kernel) rfl, am_in 22 (by decide +kernel) rfl⟩
theorem st_RX2_92 : am_SV RX2 92 MX2_addAnswer := ⟨am_in 648 (by decide +kernel) rfl, ok_X2_addAnswer, rfl, am_in 650 (by decide +kernel) rfl, am_in 23 (by decide +kernel) rfl⟩
theorem st_RX2_96 : am_SV RX2 96 MX2_shareOf := ⟨am_in 647 (by decide +kernel) rfl, ok_X2_shareOf, rfl, am_in 336 (by decide +kernel) rfl, am_in 337 (by decide +kernel) rfl⟩
theorem st_RX2_101 : am_SV RX2 101 MX2_apportion := ⟨am_in 595 (by decide +kernel) rfl, ok_X2_apportion, rfl, am_in 597 (by decide +kernel) rfl, am_in 13 (by decide +kernel) rfl⟩
theorem st_RX2_105 : am_SV RX2 105 MX2_replaceShares := ⟨am_in 619 (by decide +kernel) rfl, ok_X2_replaceShares, rfl, am_in 621 (by decide +kernel) rfl, am_in 18 (by decide +kernel) rfl⟩
theorem st_RX2_108 : am_SS RX2 108 MJ7_fill_53178 := ⟨am_in 599 (by decide +kernel) rfl, ok_J7_fill_53178, rfl, am_in 429 (by decide +kernel) rfl⟩
theorem st_RX2_111 : am_SV RX2 111 MX2_countOf := ⟨am_in 600 (by decide +kernel) rfl, ok_X2_countOf, rfl, am_in 602 (by decide +kernel) rfl, am_in 14 (by decide +kernel) rfl⟩
theorem st_RX2_115 : am_SV RX2 115 MX2_giveWholes := ⟨am_in 604 (by decide +kernel) rfl, ok_X2_giveWholes, rfl, am_in 606 (by decide +kernel) rfl, am_in 15 (by decide +kernel) rfl⟩
theorem st_RX2_119 : am_SV RX2 119 MX2_giveRests := ⟨am_in 610 (by decide +kernel) rfl, ok_X2_giveRests, rfl, am_in 612 (by decide +kernel) rfl, am_in 16 (by decide +kernel) rfl⟩
theorem st_RX2_123 : am_SV RX2 123 MX2_placeOfGreatestRest := ⟨am_in 614 (by decide +kernel) rfl, ok_X2_placeOfGreatestRest, rfl, am_in 616 (by decide +kernel) rfl, am_in 17 (by decide +kernel) rfl⟩
theorem st_RX3_15 : am_SV RX3 15 MX7_ofSide := ⟨am_in 753 (by decide +kernel) rfl, ok_X7_ofSide, rfl, am_in 368 (by decide +kernel) rfl, am_in 369 (by decide +kernel) rfl⟩
theorem st_RX3_21 : am_SV RX3 21 MX6_length := ⟨am_in 754 (by decide +kernel) rfl, ok_X6_length, rfl, am_in 388 (by decide +kernel) rfl, am_in 389 (by decide +kernel) rfl⟩
theorem st_RX3_27 : Cond.methodLink RX3 27 Jvm.Lib.Math.min.name ∈ am_ws := am_in 755 (by decide +kernel) rfl
theorem st_RX3_40 : am_SV RX3 40 MX6_at := ⟨am_in 756 (by decide +kernel) rfl, ok_X6_at, rfl, am_in 383 (by decide +kernel) rfl, am_in 384 (by decide +kernel) rfl⟩
theorem st_RX3_44 : am_SV RX3 44 MX2_shareOf := ⟨am_in 757 (by decide +kernel) rfl, ok_X2_shareOf, rfl, am_in 336 (by decide +kernel) rfl, am_in 337 (by decide +kernel) rfl⟩
theorem st_RX3_49 : am_SV RX3 49 MX3_setPart := ⟨am_in 758 (by decide +kernel) rfl, ok_X3_setPart, rfl, am_in 760 (by decide +kernel) rfl, am_in 27 (by decide +kernel) rfl⟩
theorem st_RX3_53 : am_SS RX3 53 MX3_partOf := ⟨am_in 769 (by decide +kernel) rfl, ok_X3_partOf, rfl, am_in 770 (by decide +kernel) rfl⟩
theorem st_RX3_57 : am_SS RX3 57 MX3_sumOfWays := ⟨am_in 785 (by decide +kernel) rfl, ok_X3_sumOfWays, rfl, am_in 786 (by decide +kernel) rfl⟩
theorem st_RX3_61 : am_SS RX3 61 MX3_cellOf := ⟨am_in 762 (by decide +kernel) rfl, ok_X3_cellOf, rfl, am_in 763 (by decide +kernel) rfl⟩
theorem st_RX4_11 : am_SI RX4 11 MX2_init := ⟨am_in 83 (by decide +kernel) rfl, ok_X2_init, rfl, rfl, rfl, am_in 84 (by decide +kernel) rfl⟩
theorem st_RX4_25 : am_SN RX4 25 MX8_init := ⟨by decide +kernel, ok_X8_init, rfl, rfl, rfl, am_in 108 (by decide +kernel) rfl⟩
theorem st_RX4_30 : am_SV RX4 30 MX8_replace := ⟨am_in 681 (by decide +kernel) rfl, ok_X8_replace, rfl, am_in 682 (by decide +kernel) rfl, am_in 683 (by decide +kernel) rfl⟩
theorem st_RX4_34 : am_SV RX4 34 MX4_lexicon := ⟨am_in 380 (by decide +kernel) rfl, ok_X4_lexicon, rfl, am_in 332 (by decide +kernel) rfl, am_in 333 (by decide +kernel) rfl⟩
theorem st_RX4_38 : am_SV RX4 38 MX7_ofSide := ⟨am_in 381 (by decide +kernel) rfl, ok_X7_ofSide, rfl, am_in 368 (by decide +kernel) rfl, am_in 369 (by decide +kernel) rfl⟩
theorem st_RX4_44 : am_SV RX4 44 MX6_at := ⟨am_in 382 (by decide +kernel) rfl, ok_X6_at, rfl, am_in 383 (by decide +kernel) rfl, am_in 384 (by decide +kernel) rfl⟩
theorem st_RX4_50 : am_SV RX4 50 MX6_length := ⟨am_in 387 (by decide +kernel) rfl, ok_X6_length, rfl, am_in 388 (by decide +kernel) rfl, am_in 389 (by decide +kernel) rfl⟩
theorem st_RX4_54 : am_SV RX4 54 MX2_shareOf := ⟨am_in 391 (by decide +kernel) rfl, ok_X2_shareOf, rfl, am_in 336 (by decide +kernel) rfl, am_in 337 (by decide +kernel) rfl⟩
theorem st_RX4_57 : am_SV RX4 57 MX8_between := ⟨am_in 392 (by decide +kernel) rfl, ok_X8_between, rfl, am_in 393 (by decide +kernel) rfl, am_in 394 (by decide +kernel) rfl⟩
theorem st_RX4_60 : am_SV RX4 60 MX8_ofEmpty := ⟨am_in 406 (by decide +kernel) rfl, ok_X8_ofEmpty, rfl, am_in 407 (by decide +kernel) rfl, am_in 408 (by decide +kernel) rfl⟩
theorem st_RX5_19 : am_SV RX5 19 MX0_firstLength := ⟨am_in 708 (by decide +kernel) rfl, ok_X0_firstLength, rfl, am_in 709 (by decide +kernel) rfl, am_in 710 (by decide +kernel) rfl⟩
theorem st_RX5_25 : Cond.methodLink RX5 25 Jvm.Lib.Math.min.name ∈ am_ws := am_in 712 (by decide +kernel) rfl
theorem st_RX5_31 : am_SV RX5 31 MX5_seekAcross := ⟨am_in 713 (by decide +kernel) rfl, ok_X5_seekAcross, rfl, am_in 715 (by decide +kernel) rfl, am_in 24 (by decide +kernel) rfl⟩
theorem st_RX5_35 : am_SV RX5 35 MX0_joinedBits := ⟨am_in 717 (by decide +kernel) rfl, ok_X0_joinedBits, rfl, am_in 455 (by decide +kernel) rfl, am_in 456 (by decide +kernel) rfl⟩
theorem st_RX5_39 : am_SV RX5 39 MX0_secondLength := ⟨am_in 718 (by decide +kernel) rfl, ok_X0_secondLength, rfl, am_in 719 (by decide +kernel) rfl, am_in 720 (by decide +kernel) rfl⟩
theorem st_RX5_42 : am_SS RX5 42 MX5_spanBits := ⟨am_in 722 (by decide +kernel) rfl, ok_X5_spanBits, rfl, am_in 723 (by decide +kernel) rfl⟩
theorem st_RX5_45 : am_SS RX5 45 MX5_isPhrase := ⟨am_in 726 (by decide +kernel) rfl, ok_X5_isPhrase, rfl, am_in 727 (by decide +kernel) rfl⟩
theorem st_RX5_49 : am_SV RX5 49 MX5_meet := ⟨am_in 729 (by decide +kernel) rfl, ok_X5_meet, rfl, am_in 731 (by decide +kernel) rfl, am_in 25 (by decide +kernel) rfl⟩
theorem st_RX5_53 : am_SZ RX5 53 MX0_bitOf := ⟨by decide +kernel, ok_X0_bitOf, rfl, am_in 437 (by decide +kernel) rfl⟩
theorem st_RX6_19 : am_SV RX6 19 MX6_has := ⟨am_in 386 (by decide +kernel) rfl, ok_X6_has, rfl, am_in 372 (by decide +kernel) rfl, am_in 373 (by decide +kernel) rfl⟩
theorem st_RX7_9 : am_SN RX7 9 MX6_init := ⟨by decide +kernel, ok_X6_init, rfl, rfl, rfl, am_in 194 (by decide +kernel) rfl⟩
theorem st_RX8_23 : am_SV RX8 23 MX8_at := ⟨am_in 402 (by decide +kernel) rfl, ok_X8_at, rfl, am_in 403 (by decide +kernel) rfl, am_in 404 (by decide +kernel) rfl⟩
theorem st_RX8_27 : Cond.methodLink RX8 27 Jvm.Lib.Math.abs.name ∈ am_ws := am_in 396 (by decide +kernel) rfl
theorem st_RX8_32 : Cond.methodLink RX8 32 Jvm.Lib.Math.min.name ∈ am_ws := am_in 399 (by decide +kernel) rfl
theorem st_RL_10 : am_SV RL 10 MX9_put := ⟨am_in 485 (by decide +kernel) rfl, ok_X9_put, rfl, am_in 486 (by decide +kernel) rfl, am_in 487 (by decide +kernel) rfl⟩
theorem st_RL_22 : am_SV RL 22 MX9_pair := ⟨am_in 522 (by decide +kernel) rfl, ok_X9_pair, rfl, am_in 523 (by decide +kernel) rfl, am_in 524 (by decide +kernel) rfl⟩
theorem st_RL_26 : am_SV RL 26 MX9_takeBack := ⟨am_in 689 (by decide +kernel) rfl, ok_X9_takeBack, rfl, am_in 690 (by decide +kernel) rfl, am_in 691 (by decide +kernel) rfl⟩
theorem st_RL_30 : am_SV RL 30 MX9_weight := ⟨am_in 656 (by decide +kernel) rfl, ok_X9_weight, rfl, am_in 657 (by decide +kernel) rfl, am_in 658 (by decide +kernel) rfl⟩
theorem st_RL_36 : am_SV RL 36 MX9_word := ⟨am_in 554 (by decide +kernel) rfl, ok_X9_word, rfl, am_in 555 (by decide +kernel) rfl, am_in 556 (by decide +kernel) rfl⟩
theorem st_RL_40 : am_SV RL 40 MX9_share := ⟨am_in 253 (by decide +kernel) rfl, ok_X9_share, rfl, am_in 254 (by decide +kernel) rfl, am_in 255 (by decide +kernel) rfl⟩
theorem st_RL_43 : am_SV RL 43 MX9_link := ⟨am_in 350 (by decide +kernel) rfl, ok_X9_link, rfl, am_in 351 (by decide +kernel) rfl, am_in 352 (by decide +kernel) rfl⟩
theorem st_RL_46 : am_SV RL 46 MX9_isJoined := ⟨am_in 413 (by decide +kernel) rfl, ok_X9_isJoined, rfl, am_in 414 (by decide +kernel) rfl, am_in 415 (by decide +kernel) rfl⟩
theorem st_RL_50 : am_SV RL 50 MX9_phrases := ⟨am_in 700 (by decide +kernel) rfl, ok_X9_phrases, rfl, am_in 701 (by decide +kernel) rfl, am_in 702 (by decide +kernel) rfl⟩
theorem st_RL_53 : am_SV RL 53 MX9_phrase := ⟨am_in 794 (by decide +kernel) rfl, ok_X9_phrase, rfl, am_in 795 (by decide +kernel) rfl, am_in 796 (by decide +kernel) rfl⟩
theorem st_RL_56 : am_SV RL 56 MX9_fertility := ⟨am_in 810 (by decide +kernel) rfl, ok_X9_fertility, rfl, am_in 811 (by decide +kernel) rfl, am_in 812 (by decide +kernel) rfl⟩
theorem st_RL_59 : am_SV RL 59 MX9_total := ⟨am_in 740 (by decide +kernel) rfl, ok_X9_total, rfl, am_in 741 (by decide +kernel) rfl, am_in 742 (by decide +kernel) rfl⟩
theorem st_RL_67 : am_SV RL 67 MX9_totalAnew := ⟨am_in 777 (by decide +kernel) rfl, ok_X9_totalAnew, rfl, am_in 778 (by decide +kernel) rfl, am_in 779 (by decide +kernel) rfl⟩
theorem st_RL_70 : am_ST RL 70 ML_share := ⟨am_in 249 (by decide +kernel) rfl, ok_L_share, (by simp), am_in 250 (by decide +kernel) rfl⟩
theorem st_RL_76 : am_ST RL 76 ML_link := ⟨am_in 347 (by decide +kernel) rfl, ok_L_link, (by simp), am_in 348 (by decide +kernel) rfl⟩
theorem st_RL_78 : am_ST RL 78 ML_isJoined := ⟨am_in 410 (by decide +kernel) rfl, ok_L_isJoined, (by simp), am_in 411 (by decide +kernel) rfl⟩
theorem st_RL_80 : am_ST RL 80 ML_phrases := ⟨am_in 697 (by decide +kernel) rfl, ok_L_phrases, (by simp), am_in 698 (by decide +kernel) rfl⟩
theorem st_RL_83 : am_ST RL 83 ML_phrase := ⟨am_in 791 (by decide +kernel) rfl, ok_L_phrase, (by simp), am_in 792 (by decide +kernel) rfl⟩
theorem st_RL_85 : am_ST RL 85 ML_word := ⟨am_in 551 (by decide +kernel) rfl, ok_L_word, (by simp), am_in 552 (by decide +kernel) rfl⟩
theorem st_RL_87 : am_ST RL 87 ML_fertility := ⟨am_in 807 (by decide +kernel) rfl, ok_L_fertility, (by simp), am_in 808 (by decide +kernel) rfl⟩
theorem st_RL_90 : am_SS RL 90 ML_low := ⟨am_in 474 (by decide +kernel) rfl, ok_L_low, rfl, am_in 475 (by decide +kernel) rfl⟩
theorem st_RL_93 : am_ST RL 93 ML_put := ⟨am_in 481 (by decide +kernel) rfl, ok_L_put, (by simp), am_in 482 (by decide +kernel) rfl⟩
theorem st_RL_95 : am_SV RL 95 MX9_pairs := ⟨am_in 233 (by decide +kernel) rfl, ok_X9_pairs, rfl, am_in 234 (by decide +kernel) rfl, am_in 235 (by decide +kernel) rfl⟩
theorem st_RL_98 : am_ST RL 98 ML_pair := ⟨am_in 519 (by decide +kernel) rfl, ok_L_pair, (by simp), am_in 520 (by decide +kernel) rfl⟩
theorem st_RL_101 : am_SV RL 101 MX9_wipe := ⟨am_in 540 (by decide +kernel) rfl, ok_X9_wipe, rfl, am_in 541 (by decide +kernel) rfl, am_in 542 (by decide +kernel) rfl⟩
theorem st_RL_104 : am_SS RL 104 ML_empties := ⟨am_in 548 (by decide +kernel) rfl, ok_L_empties, rfl, am_in 549 (by decide +kernel) rfl⟩
theorem st_RL_108 : am_SS RL 108 ML_puts := ⟨am_in 478 (by decide +kernel) rfl, ok_L_puts, rfl, am_in 479 (by decide +kernel) rfl⟩
theorem st_RL_112 : am_SS RL 112 ML_pairs := ⟨am_in 516 (by decide +kernel) rfl, ok_L_pairs, rfl, am_in 517 (by decide +kernel) rfl⟩
theorem st_RL_115 : am_SV RL 115 MX9_begin := ⟨am_in 560 (by decide +kernel) rfl, ok_X9_begin, rfl, am_in 561 (by decide +kernel) rfl, am_in 562 (by decide +kernel) rfl⟩
theorem st_RL_118 : am_SS RL 118 ML_areShares := ⟨am_in 246 (by decide +kernel) rfl, ok_L_areShares, rfl, am_in 247 (by decide +kernel) rfl⟩
theorem st_RL_122 : am_SV RL 122 MX9_round := ⟨am_in 627 (by decide +kernel) rfl, ok_X9_round, rfl, am_in 628 (by decide +kernel) rfl, am_in 629 (by decide +kernel) rfl⟩
theorem st_RL_125 : am_ST RL 125 ML_weight := ⟨am_in 652 (by decide +kernel) rfl, ok_L_weight, (by simp), am_in 653 (by decide +kernel) rfl⟩
theorem st_RL_127 : am_ST RL 127 ML_takeBack := ⟨am_in 686 (by decide +kernel) rfl, ok_L_takeBack, (by simp), am_in 687 (by decide +kernel) rfl⟩
theorem st_RL_129 : am_ST RL 129 ML_total := ⟨am_in 737 (by decide +kernel) rfl, ok_L_total, (by simp), am_in 738 (by decide +kernel) rfl⟩
theorem st_RL_132 : am_SS RL 132 ML_areLinks := ⟨am_in 344 (by decide +kernel) rfl, ok_L_areLinks, rfl, am_in 345 (by decide +kernel) rfl⟩
theorem st_RL_136 : am_ST RL 136 ML_totalAnew := ⟨am_in 774 (by decide +kernel) rfl, ok_L_totalAnew, (by simp), am_in 775 (by decide +kernel) rfl⟩
theorem st_RL_138 : am_SS RL 138 ML_arePhrases := ⟨am_in 788 (by decide +kernel) rfl, ok_L_arePhrases, rfl, am_in 789 (by decide +kernel) rfl⟩
theorem st_RL_141 : am_SS RL 141 ML_areFertile := ⟨am_in 804 (by decide +kernel) rfl, ok_L_areFertile, rfl, am_in 805 (by decide +kernel) rfl⟩
theorem st_RL_145 : am_SI RL 145 MX9_init := ⟨am_in 51 (by decide +kernel) rfl, ok_X9_init, rfl, rfl, rfl, am_in 52 (by decide +kernel) rfl⟩
theorem st_RL_146 : am_SS RL 146 ML_at := ⟨am_in 241 (by decide +kernel) rfl, ok_L_at, rfl, am_in 242 (by decide +kernel) rfl⟩
theorem st_RL_150 : am_SS RL 150 ML_acts := ⟨am_in 471 (by decide +kernel) rfl, ok_L_acts, rfl, am_in 472 (by decide +kernel) rfl⟩
theorem nw_RX9_9 : am_NW RX9 9 1 3 [.null, .int 0, .int 0] := ⟨_, rfl, rfl, am_in 57 (by decide +kernel) rfl, am_in 58 (by decide +kernel) rfl, am_in 31 (by decide +kernel) rfl, fun j hj ty ht => by
  have h9 := tyX1_ok j hj
  cases Option.some.inj (h9.symm.trans ht)
  rcases (show j = 0 ∨ j = 1 ∨ j = 2 by omega) with rfl | rfl | rfl <;> rfl, fun v hv => by
  simp only [List.mem_cons, List.not_mem_nil, or_false] at hv
  rcases hv with rfl | rfl | rfl <;> exact ⟨trivial, fun _ => rfl⟩⟩
theorem nw_RX9_16 : am_NW RX9 16 4 3 [.null, .null, .null] := ⟨_, rfl, rfl, am_in 75 (by decide +kernel) rfl, am_in 76 (by decide +kernel) rfl, am_in 32 (by decide +kernel) rfl, fun j hj ty ht => by
  have h9 := tyX4_ok j hj
  cases Option.some.inj (h9.symm.trans ht)
  rcases (show j = 0 ∨ j = 1 ∨ j = 2 by omega) with rfl | rfl | rfl <;> rfl, fun v hv => by
  simp only [List.mem_cons, List.not_mem_nil, or_false] at hv
  rcases hv with rfl | rfl | rfl <;> exact ⟨trivial, fun _ => rfl⟩⟩
theorem nw_RX9_23 : am_NW RX9 23 0 5 [.null, .null, .null, .int 0, .int 0] := ⟨_, rfl, rfl, am_in 134 (by decide +kernel) rfl, am_in 135 (by decide +kernel) rfl, am_in 35 (by decide +kernel) rfl, fun j hj ty ht => by
  have h9 := tyX0_ok j hj
  cases Option.some.inj (h9.symm.trans ht)
  rcases (show j = 0 ∨ j = 1 ∨ j = 2 ∨ j = 3 ∨ j = 4 by omega) with rfl | rfl | rfl | rfl | rfl <;> rfl, fun v hv => by
  simp only [List.mem_cons, List.not_mem_nil, or_false] at hv
  rcases hv with rfl | rfl | rfl | rfl | rfl <;> exact ⟨trivial, fun _ => rfl⟩⟩
theorem nw_RX9_30 : am_NW RX9 30 5 2 [.null, .int 0] := ⟨_, rfl, rfl, am_in 156 (by decide +kernel) rfl, am_in 157 (by decide +kernel) rfl, am_in 36 (by decide +kernel) rfl, fun j hj ty ht => by
  have h9 := tyX5_ok j hj
  cases Option.some.inj (h9.symm.trans ht)
  rcases (show j = 0 ∨ j = 1 by omega) with rfl | rfl <;> rfl, fun v hv => by
  simp only [List.mem_cons, List.not_mem_nil, or_false] at hv
  rcases hv with rfl | rfl <;> exact ⟨trivial, fun _ => rfl⟩⟩
theorem nw_RX9_37 : am_NW RX9 37 3 3 [.null, .int 0, .int 0] := ⟨_, rfl, rfl, am_in 169 (by decide +kernel) rfl, am_in 170 (by decide +kernel) rfl, am_in 37 (by decide +kernel) rfl, fun j hj ty ht => by
  have h9 := tyX3_ok j hj
  cases Option.some.inj (h9.symm.trans ht)
  rcases (show j = 0 ∨ j = 1 ∨ j = 2 by omega) with rfl | rfl | rfl <;> rfl, fun v hv => by
  simp only [List.mem_cons, List.not_mem_nil, or_false] at hv
  rcases hv with rfl | rfl | rfl <;> exact ⟨trivial, fun _ => rfl⟩⟩
theorem nw_RX9_44 : am_NW RX9 44 7 3 [.null, .null, .int 0] := ⟨_, rfl, rfl, am_in 185 (by decide +kernel) rfl, am_in 186 (by decide +kernel) rfl, am_in 38 (by decide +kernel) rfl, fun j hj ty ht => by
  have h9 := tyX7_ok j hj
  cases Option.some.inj (h9.symm.trans ht)
  rcases (show j = 0 ∨ j = 1 ∨ j = 2 by omega) with rfl | rfl | rfl <;> rfl, fun v hv => by
  simp only [List.mem_cons, List.not_mem_nil, or_false] at hv
  rcases hv with rfl | rfl | rfl <;> exact ⟨trivial, fun _ => rfl⟩⟩
theorem nw_RX4_9 : am_NW RX4 9 2 5 [.int 0, .null, .null, .null, .null] := ⟨_, rfl, rfl, am_in 81 (by decide +kernel) rfl, am_in 82 (by decide +kernel) rfl, am_in 33 (by decide +kernel) rfl, fun j hj ty ht => by
  have h9 := tyX2_ok j hj
  cases Option.some.inj (h9.symm.trans ht)
  rcases (show j = 0 ∨ j = 1 ∨ j = 2 ∨ j = 3 ∨ j = 4 by omega) with rfl | rfl | rfl | rfl | rfl <;> rfl, fun v hv => by
  simp only [List.mem_cons, List.not_mem_nil, or_false] at hv
  rcases hv with rfl | rfl | rfl | rfl | rfl <;> exact ⟨trivial, fun _ => rfl⟩⟩
theorem nw_RX4_23 : am_NW RX4 23 8 1 [.null] := ⟨_, rfl, rfl, am_in 105 (by decide +kernel) rfl, am_in 106 (by decide +kernel) rfl, am_in 34 (by decide +kernel) rfl, fun j hj ty ht => by
  have h9 := tyX8_ok j hj
  cases Option.some.inj (h9.symm.trans ht)
  rcases (show j = 0 by omega) with rfl <;> rfl, fun v hv => by
  simp only [List.mem_cons, List.not_mem_nil, or_false] at hv
  rcases hv with rfl <;> exact ⟨trivial, fun _ => rfl⟩⟩
theorem nw_RX7_7 : am_NW RX7 7 6 2 [.null, .int 0] := ⟨_, rfl, rfl, am_in 191 (by decide +kernel) rfl, am_in 192 (by decide +kernel) rfl, am_in 39 (by decide +kernel) rfl, fun j hj ty ht => by
  have h9 := tyX6_ok j hj
  cases Option.some.inj (h9.symm.trans ht)
  rcases (show j = 0 ∨ j = 1 by omega) with rfl | rfl <;> rfl, fun v hv => by
  simp only [List.mem_cons, List.not_mem_nil, or_false] at hv
  rcases hv with rfl | rfl <;> exact ⟨trivial, fun _ => rfl⟩⟩
theorem nw_RL_11 : am_NW RL 11 9 6 [.null, .null, .null, .null, .null, .null] := ⟨_, rfl, rfl, am_in 49 (by decide +kernel) rfl, am_in 50 (by decide +kernel) rfl, am_in 30 (by decide +kernel) rfl, fun j hj ty ht => by
  have h9 := tyX9_ok j hj
  cases Option.some.inj (h9.symm.trans ht)
  rcases (show j = 0 ∨ j = 1 ∨ j = 2 ∨ j = 3 ∨ j = 4 ∨ j = 5 by omega) with rfl | rfl | rfl | rfl | rfl | rfl <;> rfl, fun v hv => by
  simp only [List.mem_cons, List.not_mem_nil, or_false] at hv
  rcases hv with rfl | rfl | rfl | rfl | rfl | rfl <;> exact ⟨trivial, fun _ => rfl⟩⟩
theorem at_RX9_130 : ∀ w ∈ vx_atS RX9 130 "java/lang/IllegalArgumentException" ["java/lang/RuntimeException", "java/lang/Exception"], w ∈ am_ws ∨ w = .castable "java/lang/IllegalArgumentException" "java/lang/IllegalArgumentException" ∨ ∃ x ∈ am_decs, w = .declares x := by
  intro w hw
  by_cases g : goodWord w = true
  · exact Or.inl (List.mem_filter.mpr ⟨(goodIn_of (big := lw_tbl) ((vx_atS RX9 130 "java/lang/IllegalArgumentException" ["java/lang/RuntimeException", "java/lang/Exception"]).filter goodWord) (by decide +kernel) w (List.mem_filter.mpr ⟨hw, g⟩)).1, g⟩)
  · have h9 : ((vx_atS RX9 130 "java/lang/IllegalArgumentException" ["java/lang/RuntimeException", "java/lang/Exception"]).filter (fun w => !goodWord w)).all (fun w => decide (w = .castable "java/lang/IllegalArgumentException" "java/lang/IllegalArgumentException") || decide (w ∈ am_decs.map Cond.declares)) = true := by decide +kernel
    have h8 := (List.all_eq_true.mp h9 w (List.mem_filter.mpr ⟨hw, by simp only [Bool.not_eq_true] at g; rw [g]; rfl⟩))
    rcases (Bool.or_eq_true _ _ ▸ h8) with h7 | h7
    · exact Or.inr (Or.inl (of_decide_eq_true h7))
    · obtain ⟨x, hx, rfl⟩ := List.mem_map.mp (of_decide_eq_true h7)
      exact Or.inr (Or.inr ⟨x, hx, rfl⟩)
theorem ot_RX9_130_126 : ∀ w ∈ Cond.classLink RX9 126 "java/lang/IllegalArgumentException" :: Cond.initialized "java/lang/IllegalArgumentException" :: vx_atS RX9 130 "java/lang/IllegalArgumentException" ["java/lang/RuntimeException", "java/lang/Exception"], vx_ot w = true := fun w hw => List.all_eq_true.mp (show (Cond.classLink RX9 126 "java/lang/IllegalArgumentException" :: Cond.initialized "java/lang/IllegalArgumentException" :: vx_atS RX9 130 "java/lang/IllegalArgumentException" ["java/lang/RuntimeException", "java/lang/Exception"]).all vx_ot = true by decide +kernel) w hw
theorem at_RX9_62 : ∀ w ∈ vx_atS RX9 62 "java/lang/IndexOutOfBoundsException" ["java/lang/RuntimeException", "java/lang/Exception"], w ∈ am_ws ∨ w = .castable "java/lang/IndexOutOfBoundsException" "java/lang/IndexOutOfBoundsException" ∨ ∃ x ∈ am_decs, w = .declares x := by
  intro w hw
  by_cases g : goodWord w = true
  · exact Or.inl (List.mem_filter.mpr ⟨(goodIn_of (big := lw_tbl) ((vx_atS RX9 62 "java/lang/IndexOutOfBoundsException" ["java/lang/RuntimeException", "java/lang/Exception"]).filter goodWord) (by decide +kernel) w (List.mem_filter.mpr ⟨hw, g⟩)).1, g⟩)
  · have h9 : ((vx_atS RX9 62 "java/lang/IndexOutOfBoundsException" ["java/lang/RuntimeException", "java/lang/Exception"]).filter (fun w => !goodWord w)).all (fun w => decide (w = .castable "java/lang/IndexOutOfBoundsException" "java/lang/IndexOutOfBoundsException") || decide (w ∈ am_decs.map Cond.declares)) = true := by decide +kernel
    have h8 := (List.all_eq_true.mp h9 w (List.mem_filter.mpr ⟨hw, by simp only [Bool.not_eq_true] at g; rw [g]; rfl⟩))
    rcases (Bool.or_eq_true _ _ ▸ h8) with h7 | h7
    · exact Or.inr (Or.inl (of_decide_eq_true h7))
    · obtain ⟨x, hx, rfl⟩ := List.mem_map.mp (of_decide_eq_true h7)
      exact Or.inr (Or.inr ⟨x, hx, rfl⟩)
theorem ot_RX9_62_58 : ∀ w ∈ Cond.classLink RX9 58 "java/lang/IndexOutOfBoundsException" :: Cond.initialized "java/lang/IndexOutOfBoundsException" :: vx_atS RX9 62 "java/lang/IndexOutOfBoundsException" ["java/lang/RuntimeException", "java/lang/Exception"], vx_ot w = true := fun w hw => List.all_eq_true.mp (show (Cond.classLink RX9 58 "java/lang/IndexOutOfBoundsException" :: Cond.initialized "java/lang/IndexOutOfBoundsException" :: vx_atS RX9 62 "java/lang/IndexOutOfBoundsException" ["java/lang/RuntimeException", "java/lang/Exception"]).all vx_ot = true by decide +kernel) w hw
theorem at_RX9_79 : ∀ w ∈ vx_atS RX9 79 "java/lang/IllegalStateException" ["java/lang/RuntimeException", "java/lang/Exception"], w ∈ am_ws ∨ w = .castable "java/lang/IllegalStateException" "java/lang/IllegalStateException" ∨ ∃ x ∈ am_decs, w = .declares x := by
  intro w hw
  by_cases g : goodWord w = true
  · exact Or.inl (List.mem_filter.mpr ⟨(goodIn_of (big := lw_tbl) ((vx_atS RX9 79 "java/lang/IllegalStateException" ["java/lang/RuntimeException", "java/lang/Exception"]).filter goodWord) (by decide +kernel) w (List.mem_filter.mpr ⟨hw, g⟩)).1, g⟩)
  · have h9 : ((vx_atS RX9 79 "java/lang/IllegalStateException" ["java/lang/RuntimeException", "java/lang/Exception"]).filter (fun w => !goodWord w)).all (fun w => decide (w = .castable "java/lang/IllegalStateException" "java/lang/IllegalStateException") || decide (w ∈ am_decs.map Cond.declares)) = true := by decide +kernel
    have h8 := (List.all_eq_true.mp h9 w (List.mem_filter.mpr ⟨hw, by simp only [Bool.not_eq_true] at g; rw [g]; rfl⟩))
    rcases (Bool.or_eq_true _ _ ▸ h8) with h7 | h7
    · exact Or.inr (Or.inl (of_decide_eq_true h7))
    · obtain ⟨x, hx, rfl⟩ := List.mem_map.mp (of_decide_eq_true h7)
      exact Or.inr (Or.inr ⟨x, hx, rfl⟩)
theorem ot_RX9_79_75 : ∀ w ∈ Cond.classLink RX9 75 "java/lang/IllegalStateException" :: Cond.initialized "java/lang/IllegalStateException" :: vx_atS RX9 79 "java/lang/IllegalStateException" ["java/lang/RuntimeException", "java/lang/Exception"], vx_ot w = true := fun w hw => List.all_eq_true.mp (show (Cond.classLink RX9 75 "java/lang/IllegalStateException" :: Cond.initialized "java/lang/IllegalStateException" :: vx_atS RX9 79 "java/lang/IllegalStateException" ["java/lang/RuntimeException", "java/lang/Exception"]).all vx_ot = true by decide +kernel) w hw
theorem th_X9_put_14 : am_TH MX9_put 14 "java/lang/IndexOutOfBoundsException" := ⟨58, 60, 62, "no such side or word", ["java/lang/RuntimeException", "java/lang/Exception"], dX9_put_14, dX9_put_17, dX9_put_18, dX9_put_20, dX9_put_23, by decide +kernel, by decide +kernel, by decide, am_in 263 (by decide +kernel) rfl, am_in 43 (by decide +kernel) rfl, by decide +kernel, at_RX9_62, by decide +kernel, ot_RX9_62_58⟩
theorem th_X9_put_40 : am_TH MX9_put 40 "java/lang/IllegalStateException" := ⟨75, 77, 79, "the draft is full", ["java/lang/RuntimeException", "java/lang/Exception"], dX9_put_40, dX9_put_43, dX9_put_44, dX9_put_46, dX9_put_49, by decide +kernel, by decide +kernel, by decide, am_in 494 (by decide +kernel) rfl, am_in 44 (by decide +kernel) rfl, by decide +kernel, at_RX9_79, by decide +kernel, ot_RX9_79_75⟩
theorem th_X9_pair_28 : am_TH MX9_pair 28 "java/lang/IllegalStateException" := ⟨75, 91, 79, "a draft is empty", ["java/lang/RuntimeException", "java/lang/Exception"], dX9_pair_28, dX9_pair_31, dX9_pair_32, dX9_pair_34, dX9_pair_37, by decide +kernel, by decide +kernel, by decide, am_in 494 (by decide +kernel) rfl, am_in 44 (by decide +kernel) rfl, by decide +kernel, at_RX9_79, by decide +kernel, ot_RX9_79_75⟩
theorem th_X9_pair_48 : am_TH MX9_pair 48 "java/lang/IllegalStateException" := ⟨75, 94, 79, "there were as many pairs as can be", ["java/lang/RuntimeException", "java/lang/Exception"], dX9_pair_48, dX9_pair_51, dX9_pair_52, dX9_pair_54, dX9_pair_57, by decide +kernel, by decide +kernel, by decide, am_in 494 (by decide +kernel) rfl, am_in 44 (by decide +kernel) rfl, by decide +kernel, at_RX9_79, by decide +kernel, ot_RX9_79_75⟩
theorem th_X9_weight_9 : am_TH MX9_weight 9 "java/lang/IndexOutOfBoundsException" := ⟨58, 124, 62, "apart is out of range", ["java/lang/RuntimeException", "java/lang/Exception"], dX9_weight_9, dX9_weight_12, dX9_weight_13, dX9_weight_15, dX9_weight_18, by decide +kernel, by decide +kernel, by decide, am_in 263 (by decide +kernel) rfl, am_in 43 (by decide +kernel) rfl, by decide +kernel, at_RX9_62, by decide +kernel, ot_RX9_62_58⟩
theorem th_X9_weight_29 : am_TH MX9_weight 29 "java/lang/IllegalArgumentException" := ⟨126, 128, 130, "weight is out of range", ["java/lang/RuntimeException", "java/lang/Exception"], dX9_weight_29, dX9_weight_32, dX9_weight_33, dX9_weight_35, dX9_weight_38, by decide +kernel, by decide +kernel, by decide, am_in 661 (by decide +kernel) rfl, am_in 46 (by decide +kernel) rfl, by decide +kernel, at_RX9_130, by decide +kernel, ot_RX9_130_126⟩
theorem th_X9_word_18 : am_TH MX9_word 18 "java/lang/IndexOutOfBoundsException" := ⟨58, 135, 62, "no such side, or place is below 0", ["java/lang/RuntimeException", "java/lang/Exception"], dX9_word_18, dX9_word_21, dX9_word_22, dX9_word_24, dX9_word_27, by decide +kernel, by decide +kernel, by decide, am_in 263 (by decide +kernel) rfl, am_in 43 (by decide +kernel) rfl, by decide +kernel, at_RX9_62, by decide +kernel, ot_RX9_62_58⟩
theorem th_X9_share_27 : am_TH MX9_share 27 "java/lang/IndexOutOfBoundsException" := ⟨58, 141, 62, "no such direction or word", ["java/lang/RuntimeException", "java/lang/Exception"], dX9_share_27, dX9_share_30, dX9_share_31, dX9_share_33, dX9_share_36, by decide +kernel, by decide +kernel, by decide, am_in 263 (by decide +kernel) rfl, am_in 43 (by decide +kernel) rfl, by decide +kernel, at_RX9_62, by decide +kernel, ot_RX9_62_58⟩
theorem th_X9_link_29 : am_TH MX9_link 29 "java/lang/IndexOutOfBoundsException" := ⟨58, 149, 62, "no such direction or place", ["java/lang/RuntimeException", "java/lang/Exception"], dX9_link_29, dX9_link_32, dX9_link_33, dX9_link_35, dX9_link_38, by decide +kernel, by decide +kernel, by decide, am_in 263 (by decide +kernel) rfl, am_in 43 (by decide +kernel) rfl, by decide +kernel, at_RX9_62, by decide +kernel, ot_RX9_62_58⟩
theorem th_X9_isJoined_33 : am_TH MX9_isJoined 33 "java/lang/IndexOutOfBoundsException" := ⟨58, 155, 62, "no such place", ["java/lang/RuntimeException", "java/lang/Exception"], dX9_isJoined_33, dX9_isJoined_36, dX9_isJoined_37, dX9_isJoined_39, dX9_isJoined_42, by decide +kernel, by decide +kernel, by decide, am_in 263 (by decide +kernel) rfl, am_in 43 (by decide +kernel) rfl, by decide +kernel, at_RX9_62, by decide +kernel, ot_RX9_62_58⟩
theorem th_X9_phrase_47 : am_TH MX9_phrase 47 "java/lang/IndexOutOfBoundsException" := ⟨58, 172, 62, "no such phrase", ["java/lang/RuntimeException", "java/lang/Exception"], dX9_phrase_47, dX9_phrase_50, dX9_phrase_51, dX9_phrase_53, dX9_phrase_56, by decide +kernel, by decide +kernel, by decide, am_in 263 (by decide +kernel) rfl, am_in 43 (by decide +kernel) rfl, by decide +kernel, at_RX9_62, by decide +kernel, ot_RX9_62_58⟩
theorem th_X9_phrase_66 : am_TH MX9_phrase 66 "java/lang/IllegalArgumentException" := ⟨126, 174, 130, "what is out of range", ["java/lang/RuntimeException", "java/lang/Exception"], dX9_phrase_66, dX9_phrase_69, dX9_phrase_70, dX9_phrase_72, dX9_phrase_75, by decide +kernel, by decide +kernel, by decide, am_in 661 (by decide +kernel) rfl, am_in 46 (by decide +kernel) rfl, by decide +kernel, at_RX9_130, by decide +kernel, ot_RX9_130_126⟩
theorem th_X9_fertility_7 : am_TH MX9_fertility 7 "java/lang/IndexOutOfBoundsException" := ⟨58, 179, 62, "no such word", ["java/lang/RuntimeException", "java/lang/Exception"], dX9_fertility_7, dX9_fertility_10, dX9_fertility_11, dX9_fertility_13, dX9_fertility_16, by decide +kernel, by decide +kernel, by decide, am_in 263 (by decide +kernel) rfl, am_in 43 (by decide +kernel) rfl, by decide +kernel, at_RX9_62, by decide +kernel, ot_RX9_62_58⟩
theorem th_X9_fertility_27 : am_TH MX9_fertility 27 "java/lang/IllegalArgumentException" := ⟨126, 181, 130, "fertility is out of range", ["java/lang/RuntimeException", "java/lang/Exception"], dX9_fertility_27, dX9_fertility_30, dX9_fertility_31, dX9_fertility_33, dX9_fertility_36, by decide +kernel, by decide +kernel, by decide, am_in 661 (by decide +kernel) rfl, am_in 46 (by decide +kernel) rfl, by decide +kernel, at_RX9_130, by decide +kernel, ot_RX9_130_126⟩
theorem th_X9_pairThatIsThere_13 : am_TH MX9_pairThatIsThere 13 "java/lang/IndexOutOfBoundsException" := ⟨58, 207, 62, "no such pair, or it is not there any more", ["java/lang/RuntimeException", "java/lang/Exception"], dX9_pairThatIsThere_13, dX9_pairThatIsThere_16, dX9_pairThatIsThere_17, dX9_pairThatIsThere_19, dX9_pairThatIsThere_22, by decide +kernel, by decide +kernel, by decide, am_in 263 (by decide +kernel) rfl, am_in 43 (by decide +kernel) rfl, by decide +kernel, at_RX9_62, by decide +kernel, ot_RX9_62_58⟩
theorem th_X9_shortPair_18 : am_TH MX9_shortPair 18 "java/lang/IllegalStateException" := ⟨75, 209, 79, "the sentence of the side 1 is too long", ["java/lang/RuntimeException", "java/lang/Exception"], dX9_shortPair_18, dX9_shortPair_21, dX9_shortPair_22, dX9_shortPair_24, dX9_shortPair_27, by decide +kernel, by decide +kernel, by decide, am_in 494 (by decide +kernel) rfl, am_in 44 (by decide +kernel) rfl, by decide +kernel, at_RX9_79, by decide +kernel, ot_RX9_79_75⟩
