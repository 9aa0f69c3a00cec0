def wA_0 : List Cond := [Cond.code yJ0_charAt_5068e cJ0_charAt_5068e 2 (some .char), Cond.methodLink RJ0 492 yJ0_isLatin1_aae02, Cond.initialized RJ0, Cond.instanceMethod yJ0_isLatin1_aae02, Cond.selects RJ0 yJ0_isLatin1_aae02 yJ0_isLatin1_aae02, Cond.fieldLink RJ0 9 "java/lang/String" "value" "[B", Cond.methodLink RJ0 495 yJ1_charAt_3b067, Cond.initialized RJ1, Cond.static yJ1_charAt_3b067, Cond.code yJ0_checkIndex_df160 cJ0_checkIndex_df160 2 none, Cond.fieldLink RJ0 1053 "jdk/internal/util/Preconditions" "SIOOBE_FORMATTER" "Ljava/util/function/BiFunction;", Cond.methodLink RJ0 1059 yJ3_checkIndex_8e157, Cond.initialized RJ3, Cond.static yJ3_checkIndex_8e157, Cond.code yJ0_coder_7d493 cJ0_coder_7d493 1 (some .byte), Cond.fieldLink RJ0 38 "java/lang/String" "COMPACT_STRINGS" "Z", Cond.fieldLink RJ0 15 "java/lang/String" "coder" "B", Cond.code yJ0_isLatin1_aae02 cJ0_isLatin1_aae02 1 (some .boolean), Cond.code yJ0_length_8abf5 cJ0_length_8abf5 1 (some .int), Cond.methodLink RJ0 335 yJ0_coder_7d493, Cond.instanceMethod yJ0_coder_7d493, Cond.selects RJ0 yJ0_coder_7d493 yJ0_coder_7d493, Cond.code yJ1_charAt_3b067 cJ1_charAt_3b067 2 (some .char), Cond.methodLink RJ1 9 yJ0_checkIndex_df160]
def wA_1 : List Cond := [Cond.static yJ0_checkIndex_df160, Cond.code yJ3_checkIndex_8e157 cJ3_checkIndex_8e157 3 (some .int), Cond.code yJ6_bitCount_0f7a4 cJ6_bitCount_0f7a4 1 (some .int), Cond.constant RJ6 265 (1431655765), Cond.constant RJ6 266 (858993459), Cond.constant RJ6 267 (252645135), Cond.code yJ6_numberOfTrailingZeros_0f7a4 cJ6_numberOfTrailingZeros_0f7a4 2 (some .int), Cond.constant RJ6 264 (65536), Cond.code yJ7_fill_53178 cJ7_fill_53178 4 none, Cond.code yJ7_fill_d0a16 cJ7_fill_d0a16 5 none, Cond.classLink RL 7 RX9, Cond.instantiable RX9 10, Cond.initialized RX9, Cond.methodLink RL 9 yX9_init, Cond.instanceMethod yX9_init, Cond.classLink RL 10 RX10, Cond.instantiable RX10 41, Cond.initialized RX10, Cond.methodLink RL 12 yX10_init, Cond.instanceMethod yX10_init, Cond.methodLink RL 13 yX9_feed, Cond.instanceMethod yX9_feed, Cond.selects RX9 yX9_feed yX9_feed, Cond.methodLink RL 17 yX10_feed]
def wA_2 : List Cond := [Cond.instanceMethod yX10_feed, Cond.selects RX10 yX10_feed yX10_feed, Cond.methodLink RL 18 yX9_end, Cond.instanceMethod yX9_end, Cond.selects RX9 yX9_end yX9_end, Cond.methodLink RL 22 yX10_end, Cond.instanceMethod yX10_end, Cond.selects RX10 yX10_end yX10_end, Cond.methodLink RL 23 yX9_town, Cond.instanceMethod yX9_town, Cond.selects RX9 yX9_town yX9_town, Cond.methodLink RL 27 yX10_town, Cond.instanceMethod yX10_town, Cond.selects RX10 yX10_town yX10_town, Cond.methodLink RL 28 yX9_fault, Cond.instanceMethod yX9_fault, Cond.selects RX9 yX9_fault yX9_fault, Cond.methodLink RL 31 yX10_fault, Cond.instanceMethod yX10_fault, Cond.selects RX10 yX10_fault yX10_fault, Cond.methodLink RL 32 yX9_days, Cond.instanceMethod yX9_days, Cond.selects RX9 yX9_days yX9_days, Cond.methodLink RL 35 yX10_days]
def wA_3 : List Cond := [Cond.instanceMethod yX10_days, Cond.selects RX10 yX10_days yX10_days, Cond.methodLink RL 36 yX9_bars, Cond.instanceMethod yX9_bars, Cond.selects RX9 yX9_bars yX9_bars, Cond.methodLink RL 40 yX10_bars, Cond.instanceMethod yX10_bars, Cond.selects RX10 yX10_bars yX10_bars, Cond.methodLink RL 41 yX9_does, Cond.instanceMethod yX9_does, Cond.selects RX9 yX9_does yX9_does, Cond.methodLink RL 44 yX10_does, Cond.instanceMethod yX10_does, Cond.selects RX10 yX10_does yX10_does, Cond.methodLink RL 45 yX9_meet, Cond.instanceMethod yX9_meet, Cond.selects RX9 yX9_meet yX9_meet, Cond.methodLink RL 49 yX10_meet, Cond.instanceMethod yX10_meet, Cond.selects RX10 yX10_meet yX10_meet, Cond.methodLink RL 50 yX9_done, Cond.instanceMethod yX9_done, Cond.selects RX9 yX9_done yX9_done, Cond.methodLink RL 53 yX10_done]
def wA_4 : List Cond := [Cond.instanceMethod yX10_done, Cond.selects RX10 yX10_done yX10_done, Cond.methodLink RL 54 yX9_known, Cond.instanceMethod yX9_known, Cond.selects RX9 yX9_known yX9_known, Cond.methodLink RL 57 yX10_known, Cond.instanceMethod yX10_known, Cond.selects RX10 yX10_known yX10_known, Cond.methodLink RL 58 yX9_debts, Cond.instanceMethod yX9_debts, Cond.selects RX9 yX9_debts yX9_debts, Cond.methodLink RL 61 yX10_debts, Cond.instanceMethod yX10_debts, Cond.selects RX10 yX10_debts yX10_debts, Cond.methodLink RL 62 yX9_debt, Cond.instanceMethod yX9_debt, Cond.selects RX9 yX9_debt yX9_debt, Cond.methodLink RL 65 yX10_debt, Cond.instanceMethod yX10_debt, Cond.selects RX10 yX10_debt yX10_debt, Cond.methodLink RL 66 yX9_slights, Cond.instanceMethod yX9_slights, Cond.selects RX9 yX9_slights yX9_slights, Cond.methodLink RL 69 yX10_slights]
def wA_5 : List Cond := [Cond.instanceMethod yX10_slights, Cond.selects RX10 yX10_slights yX10_slights, Cond.methodLink RL 70 yX9_first, Cond.instanceMethod yX9_first, Cond.selects RX9 yX9_first yX9_first, Cond.methodLink RL 73 yX10_first, Cond.instanceMethod yX10_first, Cond.selects RX10 yX10_first yX10_first, Cond.methodLink RL 74 yX9_owes, Cond.instanceMethod yX9_owes, Cond.selects RX9 yX9_owes yX9_owes, Cond.methodLink RL 77 yX10_owes, Cond.instanceMethod yX10_owes, Cond.selects RX10 yX10_owes yX10_owes, Cond.methodLink RL 78 yX9_worth, Cond.instanceMethod yX9_worth, Cond.selects RX9 yX9_worth yX9_worth, Cond.methodLink RL 81 yX10_worth, Cond.instanceMethod yX10_worth, Cond.selects RX10 yX10_worth yX10_worth, Cond.methodLink RL 82 yX9_round, Cond.instanceMethod yX9_round, Cond.selects RX9 yX9_round yX9_round, Cond.methodLink RL 85 yX10_round]
def wA_6 : List Cond := [Cond.instanceMethod yX10_round, Cond.selects RX10 yX10_round yX10_round, Cond.methodLink RL 86 yX9_over, Cond.instanceMethod yX9_over, Cond.selects RX9 yX9_over yX9_over, Cond.methodLink RL 89 yX10_over, Cond.instanceMethod yX10_over, Cond.selects RX10 yX10_over yX10_over, Cond.methodLink RL 90 yX9_may, Cond.instanceMethod yX9_may, Cond.selects RX9 yX9_may yX9_may, Cond.methodLink RL 93 yX10_may, Cond.instanceMethod yX10_may, Cond.selects RX10 yX10_may yX10_may, Cond.methodLink RL 94 yX9_fewest, Cond.instanceMethod yX9_fewest, Cond.selects RX9 yX9_fewest yX9_fewest, Cond.methodLink RL 97 yX10_fewest, Cond.instanceMethod yX10_fewest, Cond.selects RX10 yX10_fewest yX10_fewest, Cond.methodLink RL 98 yX9_lost, Cond.instanceMethod yX9_lost, Cond.selects RX9 yX9_lost yX9_lost, Cond.methodLink RL 101 yX10_lost]
def wA_7 : List Cond := [Cond.instanceMethod yX10_lost, Cond.selects RX10 yX10_lost yX10_lost, Cond.methodLink RL 102 yX9_soon, Cond.instanceMethod yX9_soon, Cond.selects RX9 yX9_soon yX9_soon, Cond.methodLink RL 105 yX10_soon, Cond.instanceMethod yX10_soon, Cond.selects RX10 yX10_soon yX10_soon, Cond.methodLink RL 106 yX9_path, Cond.instanceMethod yX9_path, Cond.selects RX9 yX9_path yX9_path, Cond.methodLink RL 109 yX10_path, Cond.instanceMethod yX10_path, Cond.selects RX10 yX10_path yX10_path, Cond.methodLink RL 110 yX9_reach, Cond.instanceMethod yX9_reach, Cond.selects RX9 yX9_reach yX9_reach, Cond.methodLink RL 113 yX10_reach, Cond.instanceMethod yX10_reach, Cond.selects RX10 yX10_reach yX10_reach, Cond.methodLink RL 114 yX9_drop, Cond.instanceMethod yX9_drop, Cond.selects RX9 yX9_drop yX9_drop, Cond.methodLink RL 117 yX10_drop]
def wA_8 : List Cond := [Cond.instanceMethod yX10_drop, Cond.selects RX10 yX10_drop yX10_drop, Cond.methodLink RL 118 yX9_tie, Cond.instanceMethod yX9_tie, Cond.selects RX9 yX9_tie yX9_tie, Cond.methodLink RL 121 yX10_tie, Cond.instanceMethod yX10_tie, Cond.selects RX10 yX10_tie yX10_tie, Cond.methodLink RL 122 yX9_rings, Cond.instanceMethod yX9_rings, Cond.selects RX9 yX9_rings yX9_rings, Cond.methodLink RL 125 yX10_rings, Cond.instanceMethod yX10_rings, Cond.selects RX10 yX10_rings yX10_rings, Cond.methodLink RL 126 yX9_ring, Cond.instanceMethod yX9_ring, Cond.selects RX9 yX9_ring yX9_ring, Cond.methodLink RL 129 yX10_ring, Cond.instanceMethod yX10_ring, Cond.selects RX10 yX10_ring yX10_ring, Cond.methodLink RL 130 yX9_house, Cond.instanceMethod yX9_house, Cond.selects RX9 yX9_house yX9_house, Cond.methodLink RL 133 yX10_house]
def wA_9 : List Cond := [Cond.instanceMethod yX10_house, Cond.selects RX10 yX10_house yX10_house, Cond.methodLink RL 134 yX9_beside, Cond.instanceMethod yX9_beside, Cond.selects RX9 yX9_beside yX9_beside, Cond.methodLink RL 137 yX10_beside, Cond.instanceMethod yX10_beside, Cond.selects RX10 yX10_beside yX10_beside, Cond.methodLink RL 138 yX9_count, Cond.instanceMethod yX9_count, Cond.selects RX9 yX9_count yX9_count, Cond.methodLink RL 141 yX10_count, Cond.instanceMethod yX10_count, Cond.selects RX10 yX10_count yX10_count, Cond.methodLink RL 142 yX9_keep, Cond.instanceMethod yX9_keep, Cond.selects RX9 yX9_keep yX9_keep, Cond.methodLink RL 145 yX10_keep, Cond.instanceMethod yX10_keep, Cond.selects RX10 yX10_keep yX10_keep, Cond.methodLink RL 146 yX9_back, Cond.instanceMethod yX9_back, Cond.selects RX9 yX9_back yX9_back, Cond.methodLink RL 149 yX10_back]
def wA_10 : List Cond := [Cond.instanceMethod yX10_back, Cond.selects RX10 yX10_back yX10_back, Cond.methodLink RL 150 yX9_row, Cond.instanceMethod yX9_row, Cond.selects RX9 yX9_row yX9_row, Cond.methodLink RL 153 yX10_row, Cond.instanceMethod yX10_row, Cond.selects RX10 yX10_row yX10_row, Cond.constantLong RL 154 (4294967295), Cond.methodLink RL 156 yX9_write, Cond.instanceMethod yX9_write, Cond.selects RX9 yX9_write yX9_write, Cond.methodLink RL 160 yX10_write, Cond.instanceMethod yX10_write, Cond.selects RX10 yX10_write yX10_write, Cond.methodLink RL 161 yX9_paste, Cond.instanceMethod yX9_paste, Cond.selects RX9 yX9_paste yX9_paste, Cond.methodLink RL 164 yX10_paste, Cond.instanceMethod yX10_paste, Cond.selects RX10 yX10_paste yX10_paste, Cond.code yX0_bounded cX0_bounded 3 (some .long), Cond.constantLong RX0 72 (1000000000), Cond.constantLong RX0 74 (-1000000000)]
def wA_11 : List Cond := [Cond.fieldLink RX0 56 "CardBowl$Code" "beyond" "Z", Cond.code yX0_clear cX0_clear 1 none, Cond.fieldLink RX0 33 "CardBowl$Code" "lines" "I", Cond.fieldLink RX0 37 "CardBowl$Code" "used" "I", Cond.code yX0_compares cX0_compares 5 (some .boolean), Cond.code yX0_copy cX0_copy 2 none, Cond.fieldLink RX0 9 "CardBowl$Code" "paying" "[I", Cond.methodLink RX0 40 arraycopyName, Cond.native arraycopyName, Cond.static arraycopyName, Cond.initialized "java/lang/System", Cond.fieldLink RX0 15 "CardBowl$Code" "kind" "[I", Cond.fieldLink RX0 18 "CardBowl$Code" "within" "[I", Cond.fieldLink RX0 21 "CardBowl$Code" "start" "[I", Cond.fieldLink RX0 24 "CardBowl$Code" "stop" "[I", Cond.fieldLink RX0 27 "CardBowl$Code" "tests" "[I", Cond.code yX0_holds cX0_holds 13 (some .boolean), Cond.methodLink RX0 50 Lib.Math.min.name, Cond.static Lib.Math.min.name, Cond.initialized "java/lang/Math", Cond.code Lib.Math.min.name Lib.Math.min.code 2 (some .int), Cond.methodLink RX0 60 yX0_partOf, Cond.initialized RX0, Cond.instanceMethod yX0_partOf]
def wA_12 : List Cond := [Cond.selects RX0 yX0_partOf yX0_partOf, Cond.methodLink RX0 64 yX0_bounded, Cond.instanceMethod yX0_bounded, Cond.selects RX0 yX0_bounded yX0_bounded, Cond.methodLink RX0 68 yX0_compares, Cond.static yX0_compares, Cond.code yX0_init cX0_init 1 none, Cond.methodLink RX0 3 objectInit, Cond.instanceMethod objectInit, Cond.code objectInit ⟨#[0xb1]⟩ 1 none, Cond.arrayClass .int, Cond.fieldLink RX0 30 "CardBowl$Code" "facts" "[I", Cond.code yX0_lineFor cX0_lineFor 8 (some .int), Cond.methodLink RX0 46 yX0_holds, Cond.instanceMethod yX0_holds, Cond.selects RX0 yX0_holds yX0_holds, Cond.code yX0_partOf cX0_partOf 2 (some .int), Cond.code yX0_put cX0_put 2 none, Cond.code yX1_add cX1_add 6 none, Cond.fieldLink RX1 33 "CardBowl$Debts" "size" "I", Cond.fieldLink RX1 9 "CardBowl$Debts" "debtor" "[I", Cond.fieldLink RX1 15 "CardBowl$Debts" "creditor" "[I", Cond.fieldLink RX1 18 "CardBowl$Debts" "kind" "[I", Cond.fieldLink RX1 21 "CardBowl$Debts" "due" "[I"]
def wA_13 : List Cond := [Cond.fieldLink RX1 24 "CardBowl$Debts" "came" "[I", Cond.fieldLink RX1 27 "CardBowl$Debts" "open" "[I", Cond.fieldLink RX1 30 "CardBowl$Debts" "kinds" "[I", Cond.code yX1_clear cX1_clear 1 none, Cond.methodLink RX1 37 yJ7_fill_53178, Cond.initialized RJ7, Cond.static yJ7_fill_53178, Cond.code yX1_copy cX1_copy 2 none, Cond.methodLink RX1 43 arraycopyName, Cond.code yX1_init cX1_init 1 none, Cond.methodLink RX1 3 objectInit, Cond.code yX1_kindsOf cX1_kindsOf 3 (some .int), Cond.code yX1_move cX1_move 3 none, Cond.code yX1_nth cX1_nth 5 (some .int), Cond.code yX1_overdue cX1_overdue 4 (some .int), Cond.code yX1_overdueTo cX1_overdueTo 5 (some .int), Cond.code yX1_settle cX1_settle 7 (some .int), Cond.methodLink RX1 49 yX1_kindsOf, Cond.initialized RX1, Cond.instanceMethod yX1_kindsOf, Cond.selects RX1 yX1_kindsOf yX1_kindsOf, Cond.methodLink RX1 53 yX1_move, Cond.instanceMethod yX1_move, Cond.selects RX1 yX1_move yX1_move]
def wA_14 : List Cond := [Cond.code yX10_advance cX10_advance 2 none, Cond.fieldLink RX10 115 "CardBowlModel" "at" "I", Cond.methodLink RX10 118 yX10_see, Cond.instanceMethod yX10_see, Cond.selects RX10 yX10_see yX10_see, Cond.fieldLink RX10 122 "CardBowlModel" "from" "I", Cond.fieldLink RX10 125 "CardBowlModel" "token" "I", Cond.constantLong RX10 128 (97), Cond.constantLong RX10 130 (122), Cond.methodLink RX10 101 yX10_in, Cond.static yX10_in, Cond.constantLong RX10 132 (48), Cond.constantLong RX10 134 (57), Cond.fieldLink RX10 136 "CardBowlModel" "value" "I", Cond.methodLink RX10 139 Lib.Math.min.name, Cond.code yX10_areKnown cX10_areKnown 3 (some .boolean), Cond.fieldLink RX10 13 "CardBowlModel" "world" "[I", Cond.methodLink RX10 294 yX10_holds, Cond.static yX10_holds, Cond.code yX10_areTwo cX10_areTwo 3 (some .boolean), Cond.methodLink RX10 105 yX10_isHouse, Cond.instanceMethod yX10_isHouse, Cond.selects RX10 yX10_isHouse yX10_isHouse, Cond.code yX10_back cX10_back 3 (some .int)]
def wA_15 : List Cond := [Cond.constantLong RX10 99 (2), Cond.fieldLink RX10 20 "CardBowlModel" "hasImage" "[Z", Cond.fieldLink RX10 17 "CardBowlModel" "images" "[I", Cond.code yX10_bars cX10_bars 4 (some .int), Cond.methodLink RX10 315 yX10_areTwo, Cond.instanceMethod yX10_areTwo, Cond.selects RX10 yX10_areTwo yX10_areTwo, Cond.methodLink RX10 318 yX10_isPaying, Cond.static yX10_isPaying, Cond.methodLink RX10 321 yX10_barsOf, Cond.instanceMethod yX10_barsOf, Cond.selects RX10 yX10_barsOf yX10_barsOf, Cond.code yX10_barsOf cX10_barsOf 6 (some .int), Cond.methodLink RX10 291 yX10_today, Cond.instanceMethod yX10_today, Cond.selects RX10 yX10_today yX10_today, Cond.methodLink RX10 301 yX10_isThere, Cond.instanceMethod yX10_isThere, Cond.selects RX10 yX10_isThere yX10_isThere, Cond.methodLink RX10 304 yX10_areKnown, Cond.instanceMethod yX10_areKnown, Cond.selects RX10 yX10_areKnown yX10_areKnown, Cond.methodLink RX10 307 yX10_isNew, Cond.instanceMethod yX10_isNew]
def wA_16 : List Cond := [Cond.selects RX10 yX10_isNew yX10_isNew, Cond.methodLink RX10 310 yX10_isIntroduced, Cond.instanceMethod yX10_isIntroduced, Cond.selects RX10 yX10_isIntroduced yX10_isIntroduced, Cond.methodLink RX10 286 yX10_ofHouse, Cond.instanceMethod yX10_ofHouse, Cond.selects RX10 yX10_ofHouse yX10_ofHouse, Cond.code yX10_beside cX10_beside 5 (some .int), Cond.fieldLink RX10 83 "CardBowlModel" "saved" "[I", Cond.methodLink RX10 364 yX10_goes, Cond.instanceMethod yX10_goes, Cond.selects RX10 yX10_goes yX10_goes, Cond.code yX10_callsAll cX10_callsAll 2 none, Cond.fieldLink RX10 80 "CardBowlModel" "calledOn" "[I", Cond.constantLong RX10 313 (3), Cond.code yX10_comes cX10_comes 7 none, Cond.code yX10_comesTo cX10_comesTo 5 (some .int), Cond.code yX10_count cX10_count 4 (some .int), Cond.methodLink RX10 325 yX10_ofDebt, Cond.instanceMethod yX10_ofDebt, Cond.selects RX10 yX10_ofDebt yX10_ofDebt, Cond.fieldLink RX10 109 "CardBowlModel" "taped" "I", Cond.fieldLink RX10 86 "CardBowlModel" "many" "[I", Cond.code yX10_covers cX10_covers 6 (some .int)]
def wA_17 : List Cond := [Cond.fieldLink RX10 438 "CardBowlModel" "tenMany" "I", Cond.fieldLink RX10 393 "CardBowlModel" "houseMany" "I", Cond.fieldLink RX10 40 "CardBowlModel" "houses" "[I", Cond.fieldLink RX10 55 "CardBowlModel" "tenDebts" "[I", Cond.code yX10_cut cX10_cut 4 (some .long), Cond.code yX10_dayHere cX10_dayHere 1 (some .int), Cond.methodLink RX10 162 yX10_is, Cond.instanceMethod yX10_is, Cond.selects RX10 yX10_is yX10_is, Cond.code yX10_days cX10_days 2 (some .int), Cond.constantLong RX10 289 (60), Cond.code yX10_debt cX10_debt 5 (some .int), Cond.methodLink RX10 384 yX10_placeOf, Cond.instanceMethod yX10_placeOf, Cond.selects RX10 yX10_placeOf yX10_placeOf, Cond.code yX10_debts cX10_debts 2 (some .int), Cond.methodLink RX10 339 yX10_debtsOf, Cond.instanceMethod yX10_debtsOf, Cond.selects RX10 yX10_debtsOf yX10_debtsOf, Cond.code yX10_debtsOf cX10_debtsOf 4 (some .int), Cond.code yX10_does cX10_does 4 (some .int), Cond.methodLink RX10 368 yX10_notes, Cond.instanceMethod yX10_notes, Cond.selects RX10 yX10_notes yX10_notes]
def wA_18 : List Cond := [Cond.code yX10_done cX10_done 11 (some .int), Cond.methodLink RX10 371 yX10_isSlot, Cond.static yX10_isSlot, Cond.fieldLink RX10 92 "CardBowlModel" "numbers" "[J", Cond.constantLong RX10 374 (16), Cond.constantLong RX10 376 (4), Cond.methodLink RX10 378 yX10_meet, Cond.methodLink RX10 381 yX10_does, Cond.code yX10_drop cX10_drop 5 (some .int), Cond.methodLink RX10 390 yX10_weighs, Cond.instanceMethod yX10_weighs, Cond.selects RX10 yX10_weighs yX10_weighs, Cond.methodLink RX10 456 yX10_hangs, Cond.instanceMethod yX10_hangs, Cond.selects RX10 yX10_hangs yX10_hangs, Cond.methodLink RX10 298 yX10_ones, Cond.static yX10_ones, Cond.fieldLink RX10 43 "CardBowlModel" "worthOf" "[I", Cond.code yX10_drops cX10_drops 3 none, Cond.code yX10_end cX10_end 2 (some .int), Cond.code yX10_errs cX10_errs 2 none, Cond.methodLink RX10 148 yX10_good, Cond.instanceMethod yX10_good, Cond.selects RX10 yX10_good yX10_good]
def wA_19 : List Cond := [Cond.fieldLink RX10 145 "CardBowlModel" "faultKind" "I", Cond.fieldLink RX10 31 "CardBowlModel" "faultPlace" "I", Cond.code yX10_fault cX10_fault 2 (some .int), Cond.code yX10_feed cX10_feed 7 (some .int), Cond.fieldLink RX10 28 "CardBowlModel" "five" "[I", Cond.fieldLink RX10 24 "CardBowlModel" "tape" "[B", Cond.code yX10_fewest cX10_fewest 7 (some .int), Cond.methodLink RX10 441 yX10_listsTen, Cond.instanceMethod yX10_listsTen, Cond.selects RX10 yX10_listsTen yX10_listsTen, Cond.fieldLink RX10 58 "CardBowlModel" "fewestBy" "[I", Cond.methodLink RX10 411 yX10_goesThrough, Cond.instanceMethod yX10_goesThrough, Cond.selects RX10 yX10_goesThrough yX10_goesThrough, Cond.fieldLink RX10 61 "CardBowlModel" "covered" "[I", Cond.methodLink RX10 424 yX10_overOf, Cond.instanceMethod yX10_overOf, Cond.selects RX10 yX10_overOf yX10_overOf, Cond.methodLink RX10 444 yX10_covers, Cond.instanceMethod yX10_covers, Cond.selects RX10 yX10_covers yX10_covers, Cond.code yX10_finds cX10_finds 7 (some .boolean), Cond.fieldLink RX10 74 "CardBowlModel" "met" "[Z", Cond.fieldLink RX10 65 "CardBowlModel" "queue" "[I"]
def wA_20 : List Cond := [Cond.fieldLink RX10 71 "CardBowlModel" "parent" "[I", Cond.fieldLink RX10 68 "CardBowlModel" "cameBy" "[I", Cond.methodLink RX10 447 yX10_walks, Cond.instanceMethod yX10_walks, Cond.selects RX10 yX10_walks yX10_walks, Cond.code yX10_first cX10_first 5 (some .int), Cond.methodLink RX10 387 yX10_slightsOf, Cond.instanceMethod yX10_slightsOf, Cond.selects RX10 yX10_slightsOf yX10_slightsOf, Cond.code yX10_goes cX10_goes 8 (some .int), Cond.methodLink RX10 345 yX10_meets, Cond.instanceMethod yX10_meets, Cond.selects RX10 yX10_meets yX10_meets, Cond.methodLink RX10 349 yX10_pays, Cond.instanceMethod yX10_pays, Cond.selects RX10 yX10_pays yX10_pays, Cond.methodLink RX10 352 yX10_lineFor, Cond.instanceMethod yX10_lineFor, Cond.selects RX10 yX10_lineFor yX10_lineFor, Cond.methodLink RX10 356 yX10_owesAlready, Cond.instanceMethod yX10_owesAlready, Cond.selects RX10 yX10_owesAlready yX10_owesAlready, Cond.methodLink RX10 360 yX10_comes, Cond.instanceMethod yX10_comes]
def wA_21 : List Cond := [Cond.selects RX10 yX10_comes yX10_comes, Cond.code yX10_goesThrough cX10_goesThrough 11 none, Cond.fieldLink RX10 49 "CardBowlModel" "over" "[I", Cond.methodLink RX10 405 yX10_seen, Cond.instanceMethod yX10_seen, Cond.selects RX10 yX10_seen yX10_seen, Cond.code yX10_good cX10_good 1 (some .boolean), Cond.code yX10_hangs cX10_hangs 8 (some .int), Cond.code yX10_holds cX10_holds 2 (some .boolean), Cond.code yX10_house cX10_house 5 (some .int), Cond.constantLong RX10 468 (8), Cond.constant RX10 470 (-2000000000), Cond.code yX10_in cX10_in 6 (some .boolean), Cond.code yX10_init cX10_init 1 none, Cond.methodLink RX10 7 objectInit, Cond.arrayClass .boolean, Cond.arrayClass .byte, Cond.fieldLink RX10 34 "CardBowlModel" "fresh" "[I", Cond.fieldLink RX10 37 "CardBowlModel" "parts" "[I", Cond.fieldLink RX10 46 "CardBowlModel" "byCall" "[Z", Cond.fieldLink RX10 52 "CardBowlModel" "row" "[I", Cond.constant RX10 64 (65536), Cond.fieldLink RX10 77 "CardBowlModel" "calls" "[I", Cond.fieldLink RX10 89 "CardBowlModel" "width" "[I"]
def wA_22 : List Cond := [Cond.arrayClass .long, Cond.fieldLink RX10 96 "CardBowlModel" "moving" "[J", Cond.code yX10_is cX10_is 4 (some .boolean), Cond.methodLink RX10 152 yJ0_length_8abf5, Cond.instanceMethod yJ0_length_8abf5, Cond.selects RJ0 yJ0_length_8abf5 yJ0_length_8abf5, Cond.methodLink RX10 158 yJ0_charAt_5068e, Cond.instanceMethod yJ0_charAt_5068e, Cond.selects RJ0 yJ0_charAt_5068e yJ0_charAt_5068e, Cond.code yX10_isHouse cX10_isHouse 2 (some .boolean), Cond.code yX10_isIntroduced cX10_isIntroduced 3 (some .boolean), Cond.code yX10_isNew cX10_isNew 2 (some .boolean), Cond.code yX10_isPaying cX10_isPaying 1 (some .boolean), Cond.code yX10_isRound cX10_isRound 3 (some .boolean), Cond.constantLong RX10 427 (399), Cond.code yX10_isSlot cX10_isSlot 1 (some .boolean), Cond.code yX10_isThere cX10_isThere 3 (some .boolean), Cond.code yX10_keep cX10_keep 3 (some .int), Cond.code yX10_known cX10_known 3 (some .int), Cond.code yX10_lineFor cX10_lineFor 10 (some .int), Cond.methodLink RX10 342 yX10_testHolds, Cond.instanceMethod yX10_testHolds, Cond.selects RX10 yX10_testHolds yX10_testHolds, Cond.code yX10_lists cX10_lists 3 none]
def wA_23 : List Cond := [Cond.code yX10_listsTen cX10_listsTen 4 none, Cond.code yX10_lost cX10_lost 6 (some .int), Cond.code yX10_may cX10_may 11 (some .int), Cond.methodLink RX10 429 yX10_isRound, Cond.instanceMethod yX10_isRound, Cond.selects RX10 yX10_isRound yX10_isRound, Cond.code yX10_meet cX10_meet 4 (some .int), Cond.code yX10_meets cX10_meets 3 none, Cond.code yX10_minutes cX10_minutes 3 (some .int), Cond.methodLink RX10 396 Lib.Math.abs.name, Cond.static Lib.Math.abs.name, Cond.code Lib.Math.abs.name Lib.Math.abs.code 1 (some .int), Cond.code yX10_needs cX10_needs 2 none, Cond.methodLink RX10 169 yX10_takes, Cond.instanceMethod yX10_takes, Cond.selects RX10 yX10_takes yX10_takes, Cond.methodLink RX10 172 yX10_errs, Cond.instanceMethod yX10_errs, Cond.selects RX10 yX10_errs yX10_errs, Cond.code yX10_notes cX10_notes 6 (some .int), Cond.code yX10_number cX10_number 4 (some .int), Cond.methodLink RX10 166 yX10_advance, Cond.instanceMethod yX10_advance, Cond.selects RX10 yX10_advance yX10_advance]
def wA_24 : List Cond := [Cond.code yX10_ofDebt cX10_ofDebt 3 (some .int), Cond.code yX10_ofHouse cX10_ofHouse 3 (some .int), Cond.code yX10_ones cX10_ones 3 (some .int), Cond.code yX10_over cX10_over 3 (some .int), Cond.methodLink RX10 432 yX10_rounds, Cond.instanceMethod yX10_rounds, Cond.selects RX10 yX10_rounds yX10_rounds, Cond.fieldLink RX10 418 "CardBowlModel" "bestOver" "I", Cond.code yX10_overOf cX10_overOf 5 (some .int), Cond.code yX10_owes cX10_owes 6 (some .int), Cond.code yX10_owesAlready cX10_owesAlready 5 (some .boolean), Cond.code yX10_partOf cX10_partOf 3 (some .long), Cond.code yX10_paste cX10_paste 7 (some .int), Cond.code yX10_path cX10_path 4 (some .int), Cond.methodLink RX10 453 yX10_finds, Cond.instanceMethod yX10_finds, Cond.selects RX10 yX10_finds yX10_finds, Cond.fieldLink RX10 450 "CardBowlModel" "callMany" "I", Cond.code yX10_payingHere cX10_payingHere 1 (some .int), Cond.code yX10_pays cX10_pays 6 (some .int), Cond.methodLink RX10 328 yX10_drops, Cond.instanceMethod yX10_drops, Cond.selects RX10 yX10_drops yX10_drops, Cond.code yX10_placeOf cX10_placeOf 5 (some .int)]
def wA_25 : List Cond := [Cond.code yX10_reach cX10_reach 2 (some .int), Cond.code yX10_readHouse cX10_readHouse 2 none, Cond.methodLink RX10 206 yX10_told, Cond.instanceMethod yX10_told, Cond.selects RX10 yX10_told yX10_told, Cond.methodLink RX10 180 yX10_number, Cond.instanceMethod yX10_number, Cond.selects RX10 yX10_number yX10_number, Cond.methodLink RX10 176 yX10_needs, Cond.instanceMethod yX10_needs, Cond.selects RX10 yX10_needs yX10_needs, Cond.methodLink RX10 214 yX10_dayHere, Cond.instanceMethod yX10_dayHere, Cond.selects RX10 yX10_dayHere yX10_dayHere, Cond.methodLink RX10 217 yX10_taken, Cond.instanceMethod yX10_taken, Cond.selects RX10 yX10_taken yX10_taken, Cond.code yX10_readKnow cX10_readKnow 3 none, Cond.code yX10_readLine cX10_readLine 3 none, Cond.methodLink RX10 252 yX10_payingHere, Cond.instanceMethod yX10_payingHere, Cond.selects RX10 yX10_payingHere yX10_payingHere, Cond.methodLink RX10 274 yX10_readOwes, Cond.instanceMethod yX10_readOwes]
def wA_26 : List Cond := [Cond.selects RX10 yX10_readOwes yX10_readOwes, Cond.methodLink RX10 277 yX10_readHouse, Cond.instanceMethod yX10_readHouse, Cond.selects RX10 yX10_readHouse yX10_readHouse, Cond.methodLink RX10 280 yX10_readKnow, Cond.instanceMethod yX10_readKnow, Cond.selects RX10 yX10_readKnow yX10_readKnow, Cond.code yX10_readOwes cX10_readOwes 2 none, Cond.methodLink RX10 261 yX10_readTest, Cond.instanceMethod yX10_readTest, Cond.selects RX10 yX10_readTest yX10_readTest, Cond.code yX10_readPart cX10_readPart 5 none, Cond.code yX10_readSum cX10_readSum 3 none, Cond.methodLink RX10 234 yX10_readPart, Cond.instanceMethod yX10_readPart, Cond.selects RX10 yX10_readPart yX10_readPart, Cond.code yX10_readTest cX10_readTest 4 none, Cond.methodLink RX10 243 yX10_readSum, Cond.instanceMethod yX10_readSum, Cond.selects RX10 yX10_readSum yX10_readSum, Cond.code yX10_ring cX10_ring 2 (some .int), Cond.methodLink RX10 462 yX10_callsAll, Cond.instanceMethod yX10_callsAll, Cond.selects RX10 yX10_callsAll yX10_callsAll]
def wA_27 : List Cond := [Cond.methodLink RX10 465 yX10_ringOf, Cond.instanceMethod yX10_ringOf, Cond.selects RX10 yX10_ringOf yX10_ringOf, Cond.code yX10_ringOf cX10_ringOf 4 (some .int), Cond.methodLink RX10 459 yX10_comesTo, Cond.instanceMethod yX10_comesTo, Cond.selects RX10 yX10_comesTo yX10_comesTo, Cond.code yX10_rings cX10_rings 4 (some .int), Cond.code yX10_round cX10_round 5 (some .int), Cond.fieldLink RX10 415 "CardBowlModel" "bestSet" "I", Cond.methodLink RX10 435 yX10_rowOf, Cond.instanceMethod yX10_rowOf, Cond.selects RX10 yX10_rowOf yX10_rowOf, Cond.code yX10_rounds cX10_rounds 7 none, Cond.methodLink RX10 408 yX10_lists, Cond.instanceMethod yX10_lists, Cond.selects RX10 yX10_lists yX10_lists, Cond.fieldLink RX10 421 "CardBowlModel" "bestWorth" "I", Cond.code yX10_row cX10_row 5 (some .int), Cond.code yX10_rowOf cX10_rowOf 12 none, Cond.code yX10_see cX10_see 2 (some .int), Cond.fieldLink RX10 112 "CardBowlModel" "size" "I", Cond.code yX10_seen cX10_seen 6 (some .int), Cond.methodLink RX10 399 yX10_minutes]
def wA_28 : List Cond := [Cond.instanceMethod yX10_minutes, Cond.selects RX10 yX10_minutes yX10_minutes, Cond.methodLink RX10 402 Lib.Math.max.name, Cond.static Lib.Math.max.name, Cond.code Lib.Math.max.name Lib.Math.max.code 2 (some .int), Cond.code yX10_slights cX10_slights 2 (some .int), Cond.code yX10_slightsOf cX10_slightsOf 4 (some .int), Cond.code yX10_soon cX10_soon 3 (some .int), Cond.code yX10_taken cX10_taken 2 (some .int), Cond.code yX10_takes cX10_takes 3 (some .boolean), Cond.code yX10_testHolds cX10_testHolds 11 (some .boolean), Cond.methodLink RX10 331 yX10_partOf, Cond.instanceMethod yX10_partOf, Cond.selects RX10 yX10_partOf yX10_partOf, Cond.constantLong RX10 335 (-1000000000), Cond.constantLong RX10 337 (1000000000), Cond.code yX10_tie cX10_tie 3 (some .int), Cond.code yX10_today cX10_today 1 (some .int), Cond.code yX10_told cX10_told 4 (some .int), Cond.code yX10_town cX10_town 2 (some .int), Cond.methodLink RX10 283 yX10_readLine, Cond.instanceMethod yX10_readLine, Cond.selects RX10 yX10_readLine yX10_readLine, Cond.code yX10_walks cX10_walks 4 none]
def wA_29 : List Cond := [Cond.code yX10_weighs cX10_weighs 4 none, Cond.code yX10_worth cX10_worth 3 (some .int), Cond.code yX10_write cX10_write 5 (some .int), Cond.methodLink RX10 471 yX10_cut, Cond.static yX10_cut, Cond.code yX2_add cX2_add 5 none, Cond.fieldLink RX2 24 "CardBowl$Deeds" "size" "I", Cond.fieldLink RX2 9 "CardBowl$Deeds" "who" "[I", Cond.fieldLink RX2 15 "CardBowl$Deeds" "whom" "[I", Cond.fieldLink RX2 18 "CardBowl$Deeds" "what" "[I", Cond.fieldLink RX2 21 "CardBowl$Deeds" "day" "[I", Cond.code yX2_callsBy cX2_callsBy 4 (some .int), Cond.code yX2_callsTo cX2_callsTo 4 (some .int), Cond.code yX2_copy cX2_copy 2 none, Cond.methodLink RX2 28 arraycopyName, Cond.code yX2_init cX2_init 1 none, Cond.methodLink RX2 3 objectInit, Cond.code yX2_isFull cX2_isFull 1 (some .boolean), Cond.code yX3_advance cX3_advance 1 none, Cond.fieldLink RX3 42 "CardBowl$Reader" "next" "I", Cond.fieldLink RX3 39 "CardBowl$Reader" "size" "I", Cond.fieldLink RX3 29 "CardBowl$Reader" "text" "[B", Cond.fieldLink RX3 179 "CardBowl$Reader" "begin" "I", Cond.fieldLink RX3 55 "CardBowl$Reader" "kind" "I"]
def wA_30 : List Cond := [Cond.methodLink RX3 182 yX3_takeWord, Cond.initialized RX3, Cond.instanceMethod yX3_takeWord, Cond.selects RX3 yX3_takeWord yX3_takeWord, Cond.methodLink RX3 185 yX3_takeNumber, Cond.instanceMethod yX3_takeNumber, Cond.selects RX3 yX3_takeNumber yX3_takeNumber, Cond.code yX3_among cX3_among 7 (some .int), Cond.methodLink RX3 189 yJ0_length_8abf5, Cond.methodLink RX3 195 yJ0_charAt_5068e, Cond.code yX3_choice cX3_choice 3 (some .int), Cond.methodLink RX3 60 yX3_among, Cond.instanceMethod yX3_among, Cond.selects RX3 yX3_among yX3_among, Cond.methodLink RX3 89 yX3_refuse, Cond.instanceMethod yX3_refuse, Cond.selects RX3 yX3_refuse yX3_refuse, Cond.fieldLink RX3 45 "CardBowl$Reader" "fault" "I", Cond.methodLink RX3 52 yX3_advance, Cond.instanceMethod yX3_advance, Cond.selects RX3 yX3_advance yX3_advance, Cond.code yX3_closeLine cX3_closeLine 1 none, Cond.code yX3_init cX3_init 1 none, Cond.methodLink RX3 3 objectInit]
def wA_31 : List Cond := [Cond.classLink RX3 9 RX7, Cond.instantiable RX7 12, Cond.initialized RX7, Cond.fieldLink RX3 12 "CardBowl$Reader" "town" "LCardBowl$Town;", Cond.classLink RX3 18 RX0, Cond.instantiable RX0 10, Cond.fieldLink RX3 21 "CardBowl$Reader" "code" "LCardBowl$Code;", Cond.fieldLink RX3 25 "CardBowl$Reader" "place" "I", Cond.code yX3_number cX3_number 4 (some .int), Cond.fieldLink RX3 136 "CardBowl$Reader" "value" "I", Cond.code yX3_read cX3_read 5 none, Cond.methodLink RX3 33 Lib.Math.min.name, Cond.methodLink RX3 48 yX7_clear, Cond.instanceMethod yX7_clear, Cond.selects RX7 yX7_clear yX7_clear, Cond.methodLink RX3 51 yX0_clear, Cond.instanceMethod yX0_clear, Cond.selects RX0 yX0_clear yX0_clear, Cond.methodLink RX3 64 yX3_readOwes, Cond.instanceMethod yX3_readOwes, Cond.selects RX3 yX3_readOwes yX3_readOwes, Cond.methodLink RX3 68 yX3_readOther, Cond.instanceMethod yX3_readOther, Cond.selects RX3 yX3_readOther yX3_readOther]
def wA_32 : List Cond := [Cond.methodLink RX3 71 yX3_closeLine, Cond.instanceMethod yX3_closeLine, Cond.selects RX3 yX3_closeLine yX3_closeLine, Cond.code yX3_readHouse cX3_readHouse 2 none, Cond.fieldLink RX3 92 "CardBowl$Town" "houses" "I", Cond.methodLink RX3 97 yX3_choice, Cond.instanceMethod yX3_choice, Cond.selects RX3 yX3_choice yX3_choice, Cond.fieldLink RX3 100 "CardBowl$Town" "x" "[I", Cond.methodLink RX3 80 yX3_number, Cond.instanceMethod yX3_number, Cond.selects RX3 yX3_number yX3_number, Cond.fieldLink RX3 104 "CardBowl$Town" "y" "[I", Cond.fieldLink RX3 109 "CardBowl$Town" "rank" "[I", Cond.fieldLink RX3 113 "CardBowl$Town" "weekday" "[I", Cond.fieldLink RX3 118 "CardBowl$Town" "from" "[I", Cond.fieldLink RX3 121 "CardBowl$Town" "to" "[I", Cond.fieldLink RX3 124 "CardBowl$Town" "came" "[I", Cond.methodLink RX3 128 yX3_takes, Cond.instanceMethod yX3_takes, Cond.selects RX3 yX3_takes yX3_takes, Cond.fieldLink RX3 132 "CardBowl$Town" "bride" "[I", Cond.code yX3_readKnow cX3_readKnow 3 none, Cond.fieldLink RX3 139 "CardBowl$Town" "told" "[I"]
def wA_33 : List Cond := [Cond.code yX3_readOther cX3_readOther 2 none, Cond.methodLink RX3 74 yX3_readHouse, Cond.instanceMethod yX3_readHouse, Cond.selects RX3 yX3_readHouse yX3_readHouse, Cond.methodLink RX3 77 yX3_readKnow, Cond.instanceMethod yX3_readKnow, Cond.selects RX3 yX3_readKnow yX3_readKnow, Cond.fieldLink RX3 83 "CardBowl$Town" "fresh" "I", Cond.fieldLink RX3 86 "CardBowl$Town" "introducers" "I", Cond.code yX3_readOwes cX3_readOwes 3 none, Cond.fieldLink RX3 142 "CardBowl$Code" "lines" "I", Cond.fieldLink RX3 147 "CardBowl$Code" "paying" "[I", Cond.fieldLink RX3 150 "CardBowl$Code" "kind" "[I", Cond.fieldLink RX3 156 "CardBowl$Code" "within" "[I", Cond.fieldLink RX3 158 "CardBowl$Code" "start" "[I", Cond.fieldLink RX3 161 "CardBowl$Code" "used" "I", Cond.methodLink RX3 166 yX3_readTests, Cond.instanceMethod yX3_readTests, Cond.selects RX3 yX3_readTests yX3_readTests, Cond.fieldLink RX3 169 "CardBowl$Code" "stop" "[I", Cond.code yX3_readTests cX3_readTests 7 none, Cond.methodLink RX3 174 yX0_put, Cond.instanceMethod yX0_put, Cond.selects RX0 yX0_put yX0_put]
def wA_34 : List Cond := [Cond.code yX3_refuse cX3_refuse 2 none, Cond.code yX3_takeNumber cX3_takeNumber 1 none, Cond.constant RX3 188 (1000000), Cond.code yX3_takeWord cX3_takeWord 1 none, Cond.code yX3_takes cX3_takes 2 (some .boolean), Cond.code yX4_addDay cX4_addDay 6 none, Cond.fieldLink RX4 43 "CardBowl$Rounds" "soonest" "[I", Cond.fieldLink RX4 46 "CardBowl$Rounds" "sums" "[I", Cond.methodLink RX4 136 Lib.Math.min.name, Cond.code yX4_arrival cX4_arrival 7 (some .int), Cond.fieldLink RX4 37 "CardBowl$Rounds" "apart" "[I", Cond.fieldLink RX4 53 "CardBowl$Rounds" "spots" "I", Cond.fieldLink RX4 40 "CardBowl$Rounds" "minute" "[I", Cond.fieldLink RX4 22 "CardBowl$Rounds" "spot" "[I", Cond.code yX4_bestSet cX4_bestSet 8 (some .int), Cond.fieldLink RX4 139 "CardBowl$Rounds" "bestWorth" "I", Cond.fieldLink RX4 92 "CardBowl$Rounds" "bestOver" "I", Cond.methodLink RX4 142 yJ6_numberOfTrailingZeros_0f7a4, Cond.initialized RJ6, Cond.static yJ6_numberOfTrailingZeros_0f7a4, Cond.fieldLink RX4 67 "CardBowl$State" "debts" "LCardBowl$Debts;", Cond.methodLink RX4 71 yX1_kindsOf, Cond.methodLink RX4 148 yX4_worthOf, Cond.initialized RX4]
def wA_35 : List Cond := [Cond.static yX4_worthOf, Cond.code yX4_canBeSeen cX4_canBeSeen 6 (some .boolean), Cond.methodLink RX4 101 yX4_lookAt, Cond.instanceMethod yX4_lookAt, Cond.selects RX4 yX4_lookAt yX4_lookAt, Cond.fieldLink RX4 56 "CardBowl$State" "town" "LCardBowl$Town;", Cond.methodLink RX4 105 yX7_minutes, Cond.instanceMethod yX7_minutes, Cond.selects RX7 yX7_minutes yX7_minutes, Cond.methodLink RX4 133 yX4_seen, Cond.instanceMethod yX4_seen, Cond.selects RX4 yX4_seen yX4_seen, Cond.fieldLink RX4 172 "CardBowl$State" "day" "I", Cond.methodLink RX4 120 yX4_isAtHome, Cond.static yX4_isAtHome, Cond.code yX4_canWalk cX4_canWalk 10 (some .boolean), Cond.fieldLink RX4 157 "CardBowl$Slot" "size" "I", Cond.methodLink RX4 162 yX5_small, Cond.initialized RX5, Cond.instanceMethod yX5_small, Cond.selects RX5 yX5_small yX5_small, Cond.methodLink RX4 165 yX7_has, Cond.instanceMethod yX7_has, Cond.selects RX7 yX7_has yX7_has]
def wA_36 : List Cond := [Cond.code yX4_fewestDays cX4_fewestDays 5 (some .int), Cond.fieldLink RX4 49 "CardBowl$Rounds" "planned" "Z", Cond.fieldLink RX4 15 "CardBowl$Rounds" "owner" "I", Cond.methodLink RX4 169 yX4_gatherDeadlines, Cond.instanceMethod yX4_gatherDeadlines, Cond.selects RX4 yX4_gatherDeadlines yX4_gatherDeadlines, Cond.methodLink RX4 77 yX4_lookAtSpots, Cond.instanceMethod yX4_lookAtSpots, Cond.selects RX4 yX4_lookAtSpots yX4_lookAtSpots, Cond.methodLink RX4 85 yX4_reckonMinutes, Cond.instanceMethod yX4_reckonMinutes, Cond.selects RX4 yX4_reckonMinutes yX4_reckonMinutes, Cond.methodLink RX4 81 yX4_openSpots, Cond.instanceMethod yX4_openSpots, Cond.selects RX4 yX4_openSpots yX4_openSpots, Cond.methodLink RX4 175 yX4_inTime, Cond.instanceMethod yX4_inTime, Cond.selects RX4 yX4_inTime yX4_inTime, Cond.methodLink RX4 178 yX4_addDay, Cond.instanceMethod yX4_addDay, Cond.selects RX4 yX4_addDay yX4_addDay, Cond.code yX4_gatherDeadlines cX4_gatherDeadlines 7 none, Cond.methodLink RX4 181 yX1_nth, Cond.instanceMethod yX1_nth]
def wA_37 : List Cond := [Cond.selects RX1 yX1_nth yX1_nth, Cond.fieldLink RX4 184 "CardBowl$Debts" "creditor" "[I", Cond.fieldLink RX4 25 "CardBowl$Rounds" "deadline" "[I", Cond.fieldLink RX4 187 "CardBowl$Debts" "due" "[I", Cond.code yX4_inTime cX4_inTime 4 (some .int), Cond.code yX4_init cX4_init 1 none, Cond.methodLink RX4 5 objectInit, Cond.fieldLink RX4 11 "CardBowl$Rounds" "order" "[I", Cond.fieldLink RX4 19 "CardBowl$Rounds" "weekday" "I", Cond.fieldLink RX4 28 "CardBowl$Rounds" "opens" "[I", Cond.fieldLink RX4 31 "CardBowl$Rounds" "closes" "[I", Cond.fieldLink RX4 34 "CardBowl$Rounds" "stays" "[I", Cond.code yX4_isAtHome cX4_isAtHome 4 (some .boolean), Cond.methodLink RX4 108 yX4_isByCall, Cond.static yX4_isByCall, Cond.fieldLink RX4 118 "CardBowl$Town" "weekday" "[I", Cond.code yX4_isByCall cX4_isByCall 3 (some .boolean), Cond.code yX4_latest cX4_latest 8 (some .int), Cond.methodLink RX4 124 Lib.Math.max.name, Cond.code yX4_lookAt cX4_lookAt 5 none, Cond.fieldLink RX4 112 "CardBowl$Town" "from" "[I", Cond.fieldLink RX4 115 "CardBowl$Town" "to" "[I", Cond.code yX4_lookAtSpots cX4_lookAtSpots 6 none, Cond.code yX4_lostBits cX4_lostBits 6 (some .int)]
def wA_38 : List Cond := [Cond.methodLink RX4 190 yX4_canBeSeen, Cond.instanceMethod yX4_canBeSeen, Cond.selects RX4 yX4_canBeSeen yX4_canBeSeen, Cond.code yX4_openSpots cX4_openSpots 5 (some .int), Cond.code yX4_plan cX4_plan 5 none, Cond.fieldLink RX4 62 "CardBowl$Town" "houses" "I", Cond.methodLink RX4 89 yX4_bestSet, Cond.instanceMethod yX4_bestSet, Cond.selects RX4 yX4_bestSet yX4_bestSet, Cond.methodLink RX4 95 yX4_reckonLatest, Cond.instanceMethod yX4_reckonLatest, Cond.selects RX4 yX4_reckonLatest yX4_reckonLatest, Cond.methodLink RX4 98 yX4_putInOrder, Cond.instanceMethod yX4_putInOrder, Cond.selects RX4 yX4_putInOrder yX4_putInOrder, Cond.code yX4_putInOrder cX4_putInOrder 10 none, Cond.fieldLink RX4 154 "CardBowl$Rounds" "length" "I", Cond.code yX4_reckonLatest cX4_reckonLatest 5 none, Cond.methodLink RX4 151 yX4_latest, Cond.instanceMethod yX4_latest, Cond.selects RX4 yX4_latest yX4_latest, Cond.code yX4_reckonMinutes cX4_reckonMinutes 8 none, Cond.methodLink RX4 129 yX4_arrival, Cond.instanceMethod yX4_arrival]
def wA_39 : List Cond := [Cond.selects RX4 yX4_arrival yX4_arrival, Cond.code yX4_seen cX4_seen 4 (some .int), Cond.code yX4_worthOf cX4_worthOf 3 (some .int), Cond.code yX5_cut cX5_cut 3 (some .long), Cond.fieldLink RX5 19 "CardBowl$Slot" "width" "I", Cond.code yX5_hasRun cX5_hasRun 3 (some .boolean), Cond.fieldLink RX5 23 "CardBowl$Slot" "size" "I", Cond.code yX5_init cX5_init 1 none, Cond.methodLink RX5 3 objectInit, Cond.fieldLink RX5 9 "CardBowl$Slot" "numbers" "[J", Cond.code yX5_lay cX5_lay 3 none, Cond.fieldLink RX5 15 "CardBowl$Slot" "filled" "Z", Cond.methodLink RX5 26 yJ7_fill_d0a16, Cond.static yJ7_fill_d0a16, Cond.code yX5_small cX5_small 2 (some .int), Cond.constantLong RX5 32 (16), Cond.code yX6_acquaint cX6_acquaint 3 none, Cond.code yX6_act cX6_act 5 (some .int), Cond.fieldLink RX6 28 "CardBowl$State" "debts" "LCardBowl$Debts;", Cond.fieldLink RX6 21 "CardBowl$State" "code" "LCardBowl$Code;", Cond.fieldLink RX6 69 "CardBowl$State" "day" "I", Cond.methodLink RX6 94 yX6_knew, Cond.initialized RX6, Cond.instanceMethod yX6_knew]
def wA_40 : List Cond := [Cond.selects RX6 yX6_knew yX6_knew, Cond.methodLink RX6 110 yX6_deal, Cond.instanceMethod yX6_deal, Cond.selects RX6 yX6_deal yX6_deal, Cond.fieldLink RX6 72 "CardBowl$State" "paid" "I", Cond.fieldLink RX6 35 "CardBowl$State" "deeds" "LCardBowl$Deeds;", Cond.methodLink RX6 114 yX2_add, Cond.initialized RX2, Cond.instanceMethod yX2_add, Cond.selects RX2 yX2_add yX2_add, Cond.fieldLink RX6 39 "CardBowl$State" "knows" "[I", Cond.methodLink RX6 118 yX6_acquaint, Cond.static yX6_acquaint, Cond.code yX6_barrier cX6_barrier 4 (some .int), Cond.fieldLink RX6 12 "CardBowl$State" "town" "LCardBowl$Town;", Cond.methodLink RX6 81 yX7_isThere, Cond.instanceMethod yX7_isThere, Cond.selects RX7 yX7_isThere yX7_isThere, Cond.methodLink RX6 85 yX6_isOpenTo, Cond.instanceMethod yX6_isOpenTo, Cond.selects RX6 yX6_isOpenTo yX6_isOpenTo, Cond.fieldLink RX6 88 "CardBowl$Town" "weekday" "[I", Cond.methodLink RX6 91 yX7_waits, Cond.instanceMethod yX7_waits]
def wA_41 : List Cond := [Cond.selects RX7 yX7_waits yX7_waits, Cond.code yX6_begin cX6_begin 3 none, Cond.methodLink RX6 46 yX7_copy, Cond.instanceMethod yX7_copy, Cond.selects RX7 yX7_copy yX7_copy, Cond.methodLink RX6 50 yX0_copy, Cond.instanceMethod yX0_copy, Cond.selects RX0 yX0_copy yX0_copy, Cond.methodLink RX6 53 yX1_clear, Cond.instanceMethod yX1_clear, Cond.selects RX1 yX1_clear yX1_clear, Cond.fieldLink RX6 56 "CardBowl$Deeds" "size" "I", Cond.fieldLink RX6 60 "CardBowl$Town" "told" "[I", Cond.methodLink RX6 63 arraycopyName, Cond.code yX6_canDrop cX6_canDrop 3 (some .boolean), Cond.methodLink RX6 154 yX1_kindsOf, Cond.methodLink RX6 171 yX6_holdsTogether, Cond.instanceMethod yX6_holdsTogether, Cond.selects RX6 yX6_holdsTogether yX6_holdsTogether, Cond.code yX6_chance cX6_chance 4 (some .int), Cond.code yX6_copy cX6_copy 2 none, Cond.methodLink RX6 75 yX1_copy, Cond.instanceMethod yX1_copy, Cond.selects RX1 yX1_copy yX1_copy]
def wA_42 : List Cond := [Cond.methodLink RX6 78 yX2_copy, Cond.instanceMethod yX2_copy, Cond.selects RX2 yX2_copy yX2_copy, Cond.code yX6_deal cX6_deal 10 (some .int), Cond.methodLink RX6 122 yX1_settle, Cond.instanceMethod yX1_settle, Cond.selects RX1 yX1_settle yX1_settle, Cond.fieldLink RX6 126 "CardBowl$Town" "rank" "[I", Cond.fieldLink RX6 129 "CardBowl$Debts" "open" "[I", Cond.methodLink RX6 132 yX0_lineFor, Cond.instanceMethod yX0_lineFor, Cond.selects RX0 yX0_lineFor yX0_lineFor, Cond.fieldLink RX6 136 "CardBowl$Code" "kind" "[I", Cond.methodLink RX6 139 yX6_isOwed, Cond.static yX6_isOwed, Cond.fieldLink RX6 143 "CardBowl$Code" "within" "[I", Cond.methodLink RX6 146 Lib.Math.min.name, Cond.methodLink RX6 151 yX1_add, Cond.instanceMethod yX1_add, Cond.selects RX1 yX1_add yX1_add, Cond.code yX6_followCalls cX6_followCalls 3 none, Cond.fieldLink RX6 43 "CardBowl$State" "follows" "[I", Cond.fieldLink RX6 163 "CardBowl$Deeds" "what" "[I", Cond.fieldLink RX6 157 "CardBowl$Deeds" "who" "[I"]
def wA_43 : List Cond := [Cond.fieldLink RX6 160 "CardBowl$Deeds" "whom" "[I", Cond.code yX6_hanging cX6_hanging 8 (some .int), Cond.code yX6_holdsTogether cX6_holdsTogether 3 (some .boolean), Cond.methodLink RX6 168 yX6_hanging, Cond.instanceMethod yX6_hanging, Cond.selects RX6 yX6_hanging yX6_hanging, Cond.code yX6_init cX6_init 1 none, Cond.methodLink RX6 3 objectInit, Cond.classLink RX6 9 RX7, Cond.classLink RX6 18 RX0, Cond.classLink RX6 25 RX1, Cond.instantiable RX1 8, Cond.classLink RX6 32 RX2, Cond.instantiable RX2 5, Cond.code yX6_isOpenTo cX6_isOpenTo 3 (some .boolean), Cond.methodLink RX6 98 yX7_isNew, Cond.instanceMethod yX7_isNew, Cond.selects RX7 yX7_isNew yX7_isNew, Cond.methodLink RX6 101 yJ6_bitCount_0f7a4, Cond.static yJ6_bitCount_0f7a4, Cond.fieldLink RX6 107 "CardBowl$Town" "introducers" "I", Cond.code yX6_isOwed cX6_isOwed 4 (some .boolean), Cond.code yX6_knew cX6_knew 3 (some .int), Cond.code yX6_replay cX6_replay 8 none]
def wA_44 : List Cond := [Cond.fieldLink RX6 166 "CardBowl$Deeds" "day" "[I", Cond.code yX6_ringBits cX6_ringBits 4 (some .int), Cond.code yX6_wouldMake cX6_wouldMake 5 (some .int), Cond.code yX7_clear cX7_clear 1 none, Cond.fieldLink RX7 43 "CardBowl$Town" "houses" "I", Cond.fieldLink RX7 46 "CardBowl$Town" "fresh" "I", Cond.fieldLink RX7 11 "CardBowl$Town" "introducers" "I", Cond.fieldLink RX7 40 "CardBowl$Town" "told" "[I", Cond.methodLink RX7 49 yJ7_fill_53178, Cond.code yX7_copy cX7_copy 2 none, Cond.fieldLink RX7 15 "CardBowl$Town" "x" "[I", Cond.methodLink RX7 55 arraycopyName, Cond.fieldLink RX7 19 "CardBowl$Town" "y" "[I", Cond.fieldLink RX7 22 "CardBowl$Town" "rank" "[I", Cond.fieldLink RX7 25 "CardBowl$Town" "weekday" "[I", Cond.fieldLink RX7 28 "CardBowl$Town" "from" "[I", Cond.fieldLink RX7 31 "CardBowl$Town" "to" "[I", Cond.fieldLink RX7 34 "CardBowl$Town" "came" "[I", Cond.fieldLink RX7 37 "CardBowl$Town" "bride" "[I", Cond.code yX7_has cX7_has 2 (some .boolean), Cond.code yX7_hasPair cX7_hasPair 3 (some .boolean), Cond.methodLink RX7 61 yX7_has, Cond.code yX7_init cX7_init 1 none, Cond.methodLink RX7 3 objectInit]
def wA_45 : List Cond := [Cond.code yX7_isNew cX7_isNew 3 (some .boolean), Cond.code yX7_isThere cX7_isThere 3 (some .boolean), Cond.code yX7_minutes cX7_minutes 3 (some .int), Cond.methodLink RX7 65 Lib.Math.abs.name, Cond.code yX7_waits cX7_waits 3 (some .boolean), Cond.code yX8_everyoneToKnow cX8_everyoneToKnow 7 (some .int), Cond.fieldLink RX8 54 "CardBowl$State" "knows" "[I", Cond.fieldLink RX8 64 "CardBowl$State" "town" "LCardBowl$Town;", Cond.fieldLink RX8 68 "CardBowl$Town" "houses" "I", Cond.fieldLink RX8 73 "CardBowl$State" "day" "I", Cond.methodLink RX8 76 yX7_isThere, Cond.methodLink RX8 80 yJ6_bitCount_0f7a4, Cond.fieldLink RX8 86 "CardBowl$Town" "introducers" "I", Cond.code yX8_gather cX8_gather 5 none, Cond.fieldLink RX8 89 "CardBowl$Ways" "between" "I", Cond.fieldLink RX8 22 "CardBowl$Ways" "house" "[I", Cond.fieldLink RX8 25 "CardBowl$Ways" "friends" "[I", Cond.fieldLink RX8 28 "CardBowl$Ways" "links" "[I", Cond.methodLink RX8 92 yX8_linksOf, Cond.initialized RX8, Cond.instanceMethod yX8_linksOf, Cond.selects RX8 yX8_linksOf yX8_linksOf, Cond.code yX8_init cX8_init 1 none, Cond.methodLink RX8 5 objectInit]
def wA_46 : List Cond := [Cond.fieldLink RX8 11 "CardBowl$Ways" "calls" "[I", Cond.fieldLink RX8 15 "CardBowl$Ways" "caller" "I", Cond.fieldLink RX8 19 "CardBowl$Ways" "goal" "I", Cond.fieldLink RX8 31 "CardBowl$Ways" "queue" "[I", Cond.fieldLink RX8 34 "CardBowl$Ways" "latest" "[I", Cond.code yX8_linksOf cX8_linksOf 5 (some .int), Cond.methodLink RX8 44 yX6_knew, Cond.code yX8_search cX8_search 13 none, Cond.methodLink RX8 95 yX8_tell, Cond.instanceMethod yX8_tell, Cond.selects RX8 yX8_tell yX8_tell, Cond.code yX8_seek cX8_seek 5 none, Cond.fieldLink RX8 37 "CardBowl$Ways" "sought" "Z", Cond.fieldLink RX8 41 "CardBowl$Ways" "length" "I", Cond.methodLink RX8 50 yX8_everyoneToKnow, Cond.static yX8_everyoneToKnow, Cond.methodLink RX8 57 yX8_gather, Cond.instanceMethod yX8_gather, Cond.selects RX8 yX8_gather yX8_gather, Cond.methodLink RX8 61 yX8_search, Cond.instanceMethod yX8_search, Cond.selects RX8 yX8_search yX8_search, Cond.code yX8_tell cX8_tell 6 none, Cond.code yX9_back cX9_back 3 (some .int)]
def wA_47 : List Cond := [Cond.methodLink RX9 271 yX9_isImage, Cond.static yX9_isImage, Cond.fieldLink RX9 27 "CardBowl" "images" "[LCardBowl$State;", Cond.fieldLink RX9 23 "CardBowl" "state" "LCardBowl$State;", Cond.methodLink RX9 302 yX6_copy, Cond.instanceMethod yX6_copy, Cond.selects RX6 yX6_copy yX6_copy, Cond.methodLink RX9 90 yX9_forget, Cond.instanceMethod yX9_forget, Cond.selects RX9 yX9_forget yX9_forget, Cond.code yX9_bars cX9_bars 4 (some .int), Cond.methodLink RX9 105 yX9_isDeed, Cond.instanceMethod yX9_isDeed, Cond.selects RX9 yX9_isDeed yX9_isDeed, Cond.methodLink RX9 109 yX6_barrier, Cond.instanceMethod yX6_barrier, Cond.selects RX6 yX6_barrier yX6_barrier, Cond.code yX9_beside cX9_beside 3 (some .int), Cond.fieldLink RX9 274 "CardBowl$State" "code" "LCardBowl$Code;", Cond.fieldLink RX9 54 "CardBowl" "otherDebts" "LCardBowl$Debts;", Cond.fieldLink RX9 58 "CardBowl" "otherKnows" "[I", Cond.methodLink RX9 275 yX6_replay, Cond.instanceMethod yX6_replay, Cond.selects RX6 yX6_replay yX6_replay]
def wA_48 : List Cond := [Cond.fieldLink RX9 279 "CardBowl$Debts" "size" "I", Cond.code yX9_count cX9_count 2 (some .int), Cond.fieldLink RX9 93 "CardBowl$State" "town" "LCardBowl$Town;", Cond.fieldLink RX9 94 "CardBowl$Town" "houses" "I", Cond.fieldLink RX9 280 "CardBowl$Code" "lines" "I", Cond.fieldLink RX9 102 "CardBowl$State" "day" "I", Cond.fieldLink RX9 161 "CardBowl$State" "debts" "LCardBowl$Debts;", Cond.methodLink RX9 285 yX1_overdue, Cond.instanceMethod yX1_overdue, Cond.selects RX1 yX1_overdue yX1_overdue, Cond.fieldLink RX9 113 "CardBowl$State" "deeds" "LCardBowl$Deeds;", Cond.fieldLink RX9 288 "CardBowl$Deeds" "size" "I", Cond.fieldLink RX9 289 "CardBowl$State" "paid" "I", Cond.fieldLink RX9 63 "CardBowl" "tapeSize" "I", Cond.fieldLink RX9 292 "CardBowl$Town" "introducers" "I", Cond.fieldLink RX9 295 "CardBowl$Town" "fresh" "I", Cond.methodLink RX9 298 yX9_filledSlots, Cond.instanceMethod yX9_filledSlots, Cond.selects RX9 yX9_filledSlots yX9_filledSlots, Cond.code yX9_days cX9_days 2 (some .int), Cond.code yX9_debt cX9_debt 5 (some .int), Cond.methodLink RX9 158 yX7_has, Cond.methodLink RX9 167 yX1_nth, Cond.fieldLink RX9 170 "CardBowl$Debts" "creditor" "[I"]
def wA_49 : List Cond := [Cond.fieldLink RX9 173 "CardBowl$Debts" "kind" "[I", Cond.fieldLink RX9 176 "CardBowl$Debts" "due" "[I", Cond.fieldLink RX9 179 "CardBowl$Debts" "came" "[I", Cond.code yX9_debts cX9_debts 2 (some .int), Cond.fieldLink RX9 164 "CardBowl$Debts" "open" "[I", Cond.code yX9_does cX9_does 4 (some .int), Cond.methodLink RX9 117 yX2_isFull, Cond.instanceMethod yX2_isFull, Cond.selects RX2 yX2_isFull yX2_isFull, Cond.methodLink RX9 123 yX6_act, Cond.instanceMethod yX6_act, Cond.selects RX6 yX6_act yX6_act, Cond.code yX9_done cX9_done 9 (some .int), Cond.methodLink RX9 134 yX9_isSlot, Cond.static yX9_isSlot, Cond.fieldLink RX9 33 "CardBowl" "slots" "[LCardBowl$Slot;", Cond.fieldLink RX9 138 "CardBowl$Slot" "filled" "Z", Cond.fieldLink RX9 142 "CardBowl$Slot" "size" "I", Cond.methodLink RX9 145 yX5_small, Cond.methodLink RX9 149 yX9_meet, Cond.methodLink RX9 152 yX9_does, Cond.code yX9_drop cX9_drop 5 (some .int), Cond.fieldLink RX9 185 "CardBowl$Town" "rank" "[I", Cond.methodLink RX9 231 yX6_canDrop]
def wA_50 : List Cond := [Cond.instanceMethod yX6_canDrop, Cond.selects RX6 yX6_canDrop yX6_canDrop, Cond.code yX9_end cX9_end 2 (some .int), Cond.code yX9_fault cX9_fault 2 (some .int), Cond.fieldLink RX9 16 "CardBowl" "reader" "LCardBowl$Reader;", Cond.fieldLink RX9 75 "CardBowl$Reader" "fault" "I", Cond.fieldLink RX9 99 "CardBowl$Reader" "place" "I", Cond.code yX9_feed cX9_feed 6 (some .int), Cond.methodLink RX9 67 yX9_feedNumber, Cond.instanceMethod yX9_feedNumber, Cond.selects RX9 yX9_feedNumber yX9_feedNumber, Cond.code yX9_feedNumber cX9_feedNumber 3 none, Cond.fieldLink RX9 9 "CardBowl" "tape" "[B", Cond.code yX9_fewest cX9_fewest 2 (some .int), Cond.fieldLink RX9 40 "CardBowl" "rounds" "LCardBowl$Rounds;", Cond.methodLink RX9 214 yX4_fewestDays, Cond.instanceMethod yX4_fewestDays, Cond.selects RX4 yX4_fewestDays yX4_fewestDays, Cond.code yX9_filledSlots cX9_filledSlots 3 (some .int), Cond.code yX9_first cX9_first 6 (some .int), Cond.methodLink RX9 182 yX1_overdueTo, Cond.instanceMethod yX1_overdueTo, Cond.selects RX1 yX1_overdueTo yX1_overdueTo, Cond.code yX9_forget cX9_forget 1 none]
def wA_51 : List Cond := [Cond.fieldLink RX9 330 "CardBowl$Rounds" "planned" "Z", Cond.fieldLink RX9 47 "CardBowl" "ways" "LCardBowl$Ways;", Cond.fieldLink RX9 333 "CardBowl$Ways" "sought" "Z", Cond.code yX9_house cX9_house 3 (some .int), Cond.constant RX9 248 (-2000000000), Cond.fieldLink RX9 249 "CardBowl$Town" "x" "[I", Cond.fieldLink RX9 252 "CardBowl$Town" "y" "[I", Cond.fieldLink RX9 255 "CardBowl$Town" "weekday" "[I", Cond.fieldLink RX9 258 "CardBowl$Town" "from" "[I", Cond.fieldLink RX9 261 "CardBowl$Town" "to" "[I", Cond.fieldLink RX9 264 "CardBowl$Town" "came" "[I", Cond.methodLink RX9 265 yX2_callsBy, Cond.instanceMethod yX2_callsBy, Cond.selects RX2 yX2_callsBy yX2_callsBy, Cond.methodLink RX9 268 yX2_callsTo, Cond.instanceMethod yX2_callsTo, Cond.selects RX2 yX2_callsTo yX2_callsTo, Cond.code yX9_init cX9_init 2 none, Cond.methodLink RX9 1 objectInit, Cond.classLink RX9 13 RX3, Cond.instantiable RX3 10, Cond.classLink RX9 20 RX6, Cond.instantiable RX6 8, Cond.classLink RX9 31 RX5]
def wA_52 : List Cond := [Cond.classLink RX9 37 RX4, Cond.instantiable RX4 17, Cond.classLink RX9 44 RX8, Cond.instantiable RX8 11, Cond.classLink RX9 51 RX1, Cond.instantiable RX5 4, Cond.code yX9_isDeed cX9_isDeed 4 (some .boolean), Cond.methodLink RX9 126 yX7_hasPair, Cond.instanceMethod yX7_hasPair, Cond.selects RX7 yX7_hasPair yX7_hasPair, Cond.code yX9_isImage cX9_isImage 1 (some .boolean), Cond.code yX9_isOuting cX9_isOuting 3 (some .boolean), Cond.code yX9_isSlot cX9_isSlot 1 (some .boolean), Cond.code yX9_keep cX9_keep 3 (some .int), Cond.code yX9_known cX9_known 3 (some .int), Cond.methodLink RX9 155 yX6_knew, Cond.code yX9_lost cX9_lost 2 (some .int), Cond.methodLink RX9 218 yX4_lostBits, Cond.instanceMethod yX4_lostBits, Cond.selects RX4 yX4_lostBits yX4_lostBits, Cond.code yX9_may cX9_may 5 (some .int), Cond.methodLink RX9 191 yX9_isOuting, Cond.instanceMethod yX9_isOuting, Cond.selects RX9 yX9_isOuting yX9_isOuting]
def wA_53 : List Cond := [Cond.methodLink RX9 210 yX4_canWalk, Cond.instanceMethod yX4_canWalk, Cond.selects RX4 yX4_canWalk yX4_canWalk, Cond.code yX9_meet cX9_meet 3 (some .int), Cond.methodLink RX9 130 yX6_chance, Cond.instanceMethod yX6_chance, Cond.selects RX6 yX6_chance yX6_chance, Cond.code yX9_over cX9_over 3 (some .int), Cond.methodLink RX9 194 yX4_plan, Cond.instanceMethod yX4_plan, Cond.selects RX4 yX4_plan yX4_plan, Cond.fieldLink RX9 207 "CardBowl$Rounds" "bestOver" "I", Cond.code yX9_owes cX9_owes 4 (some .int), Cond.methodLink RX9 188 yX6_wouldMake, Cond.instanceMethod yX6_wouldMake, Cond.selects RX6 yX6_wouldMake yX6_wouldMake, Cond.code yX9_paste cX9_paste 8 (some .int), Cond.fieldLink RX9 318 "CardBowl$Slot" "width" "I", Cond.methodLink RX9 321 yX5_hasRun, Cond.instanceMethod yX5_hasRun, Cond.selects RX5 yX5_hasRun yX5_hasRun, Cond.fieldLink RX9 310 "CardBowl$Slot" "numbers" "[J", Cond.methodLink RX9 324 arraycopyName, Cond.code yX9_path cX9_path 4 (some .int)]
def wA_54 : List Cond := [Cond.methodLink RX9 221 yX8_seek, Cond.instanceMethod yX8_seek, Cond.selects RX8 yX8_seek yX8_seek, Cond.fieldLink RX9 224 "CardBowl$Ways" "length" "I", Cond.fieldLink RX9 225 "CardBowl$Ways" "calls" "[I", Cond.code yX9_reach cX9_reach 2 (some .int), Cond.methodLink RX9 228 yX6_hanging, Cond.code yX9_ring cX9_ring 2 (some .int), Cond.methodLink RX9 237 yX6_followCalls, Cond.instanceMethod yX6_followCalls, Cond.selects RX6 yX6_followCalls yX6_followCalls, Cond.methodLink RX9 240 yX6_ringBits, Cond.instanceMethod yX6_ringBits, Cond.selects RX6 yX6_ringBits yX6_ringBits, Cond.code yX9_rings cX9_rings 4 (some .int), Cond.methodLink RX9 243 yJ6_numberOfTrailingZeros_0f7a4, Cond.code yX9_round cX9_round 4 (some .int), Cond.fieldLink RX9 201 "CardBowl$Rounds" "length" "I", Cond.fieldLink RX9 204 "CardBowl$Rounds" "order" "[I", Cond.code yX9_row cX9_row 4 (some .int), Cond.methodLink RX9 306 yX5_lay, Cond.instanceMethod yX5_lay, Cond.selects RX5 yX5_lay yX5_lay, Cond.code yX9_slights cX9_slights 2 (some .int)]
def wA_55 : List Cond := [Cond.code yX9_soon cX9_soon 3 (some .int), Cond.code yX9_tie cX9_tie 3 (some .int), Cond.methodLink RX9 234 yX6_holdsTogether, Cond.code yX9_town cX9_town 1 (some .int), Cond.methodLink RX9 71 yX3_read, Cond.instanceMethod yX3_read, Cond.selects RX3 yX3_read yX3_read, Cond.fieldLink RX9 78 "CardBowl$Reader" "town" "LCardBowl$Town;", Cond.fieldLink RX9 82 "CardBowl$Reader" "code" "LCardBowl$Code;", Cond.methodLink RX9 86 yX6_begin, Cond.instanceMethod yX6_begin, Cond.selects RX6 yX6_begin yX6_begin, Cond.code yX9_worth cX9_worth 3 (some .int), Cond.fieldLink RX9 198 "CardBowl$Rounds" "bestWorth" "I", Cond.code yX9_write cX9_write 6 (some .int), Cond.methodLink RX9 314 yX5_cut, Cond.instanceMethod yX5_cut, Cond.selects RX5 yX5_cut yX5_cut, Cond.instanceMethod yX0_init, Cond.instanceMethod yX1_init, Cond.instanceMethod yX2_init, Cond.instanceMethod yX3_init, Cond.instanceMethod yX4_init, Cond.instanceMethod yX5_init]
def wA_56 : List Cond := [Cond.instanceMethod yX6_init, Cond.instanceMethod yX7_init, Cond.instanceMethod yX8_init]
def wAll : List Cond := wA_0 ++ (wA_1 ++ (wA_2 ++ (wA_3 ++ (wA_4 ++ (wA_5 ++ (wA_6 ++ (wA_7 ++ (wA_8 ++ (wA_9 ++ (wA_10 ++ (wA_11 ++ (wA_12 ++ (wA_13 ++ (wA_14 ++ (wA_15 ++ (wA_16 ++ (wA_17 ++ (wA_18 ++ (wA_19 ++ (wA_20 ++ (wA_21 ++ (wA_22 ++ (wA_23 ++ (wA_24 ++ (wA_25 ++ (wA_26 ++ (wA_27 ++ (wA_28 ++ (wA_29 ++ (wA_30 ++ (wA_31 ++ (wA_32 ++ (wA_33 ++ (wA_34 ++ (wA_35 ++ (wA_36 ++ (wA_37 ++ (wA_38 ++ (wA_39 ++ (wA_40 ++ (wA_41 ++ (wA_42 ++ (wA_43 ++ (wA_44 ++ (wA_45 ++ (wA_46 ++ (wA_47 ++ (wA_48 ++ (wA_49 ++ (wA_50 ++ (wA_51 ++ (wA_52 ++ (wA_53 ++ (wA_54 ++ (wA_55 ++ (wA_56 ++ (wsX00 ++ (wsX10 ++ (wsX20 ++ (wsX30 ++ (wsX40 ++ (wsX50 ++ (wsX60 ++ (wsX70 ++ (wsX80 ++ (wsX90 ++ (wsX100)))))))))))))))))))))))))))))))))))))))))))))))))))))))))))))))))))
theorem inA_wA_0 : ∀ w ∈ wA_0, w ∈ wAll := fun w h => List.mem_append_left _ h
theorem inA_wA_1 : ∀ w ∈ wA_1, w ∈ wAll := fun w h => List.mem_append_right _ (List.mem_append_left _ h)
theorem inA_wA_2 : ∀ w ∈ wA_2, w ∈ wAll := fun w h => List.mem_append_right _ (List.mem_append_right _ (List.mem_append_left _ h))
theorem inA_wA_3 : ∀ w ∈ wA_3, w ∈ wAll := fun w h => List.mem_append_right _ (List.mem_append_right _ (List.mem_append_right _ (List.mem_append_left _ h)))
theorem inA_wA_4 : ∀ w ∈ wA_4, w ∈ wAll := fun w h => List.mem_append_right _ (List.mem_append_right _ (List.mem_append_right _ (List.mem_append_right _ (List.mem_append_left _ h))))
theorem inA_wA_5 : ∀ w ∈ wA_5, w ∈ wAll := fun w h => List.mem_append_right _ (List.mem_append_right _ (List.mem_append_right _ (List.mem_append_right _ (List.mem_append_right _ (List.mem_append_left _ h)))))
theorem inA_wA_6 : ∀ w ∈ wA_6, w ∈ wAll := fun w h => List.mem_append_right _ (List.mem_append_right _ (List.mem_append_right _ (List.mem_append_right _ (List.mem_append_right _ (List.mem_append_right _ (List.mem_append_left _ h))))))
theorem inA_wA_7 : ∀ w ∈ wA_7, w ∈ wAll := fun w h => List.mem_append_right _ (List.mem_append_right _ (List.mem_append_right _ (List.mem_append_right _ (List.mem_append_right _ (List.mem_append_right _ (List.mem_append_right _ (List.mem_append_left _ h)))))))
theorem inA_wA_8 : ∀ w ∈ wA_8, w ∈ wAll := fun w h => List.mem_append_right _ (List.mem_append_right _ (List.mem_append_right _ (List.mem_append_right _ (List.mem_append_right _ (List.mem_append_right _ (List.mem_append_right _ (List.mem_append_right _ (List.mem_append_left _ h))))))))
theorem inA_wA_9 : ∀ w ∈ wA_9, w ∈ wAll := fun w h => List.mem_append_right _ (List.mem_append_right _ (List.mem_append_right _ (List.mem_append_right _ (List.mem_append_right _ (List.mem_append_right _ (List.mem_append_right _ (List.mem_append_right _ (List.mem_append_right _ (List.mem_append_left _ h)))))))))
theorem inA_wA_10 : ∀ w ∈ wA_10, w ∈ wAll := fun w h => List.mem_append_right _ (List.mem_append_right _ (List.mem_append_right _ (List.mem_append_right _ (List.mem_append_right _ (List.mem_append_right _ (List.mem_append_right _ (List.mem_append_right _ (List.mem_append_right _ (List.mem_append_right _ (List.mem_append_left _ h))))))))))
theorem inA_wA_11 : ∀ w ∈ wA_11, w ∈ wAll := fun w h => List.mem_append_right _ (List.mem_append_right _ (List.mem_append_right _ (List.mem_append_right _ (List.mem_append_right _ (List.mem_append_right _ (List.mem_append_right _ (List.mem_append_right _ (List.mem_append_right _ (List.mem_append_right _ (List.mem_append_right _ (List.mem_append_left _ h)))))))))))
theorem inA_wA_12 : ∀ w ∈ wA_12, w ∈ wAll := fun w h => List.mem_append_right _ (List.mem_append_right _ (List.mem_append_right _ (List.mem_append_right _ (List.mem_append_right _ (List.mem_append_right _ (List.mem_append_right _ (List.mem_append_right _ (List.mem_append_right _ (List.mem_append_right _ (List.mem_append_right _ (List.mem_append_right _ (List.mem_append_left _ h))))))))))))
theorem inA_wA_13 : ∀ w ∈ wA_13, w ∈ wAll := fun w h => List.mem_append_right _ (List.mem_append_right _ (List.mem_append_right _ (List.mem_append_right _ (List.mem_append_right _ (List.mem_append_right _ (List.mem_append_right _ (List.mem_append_right _ (List.mem_append_right _ (List.mem_append_right _ (List.mem_append_right _ (List.mem_append_right _ (List.mem_append_right _ (List.mem_append_left _ h)))))))))))))
theorem inA_wA_14 : ∀ w ∈ wA_14, w ∈ wAll := fun w h => List.mem_append_right _ (List.mem_append_right _ (List.mem_append_right _ (List.mem_append_right _ (List.mem_append_right _ (List.mem_append_right _ (List.mem_append_right _ (List.mem_append_right _ (List.mem_append_right _ (List.mem_append_right _ (List.mem_append_right _ (List.mem_append_right _ (List.mem_append_right _ (List.mem_append_right _ (List.mem_append_left _ h))))))))))))))
theorem inA_wA_15 : ∀ w ∈ wA_15, w ∈ wAll := fun w h => List.mem_append_right _ (List.mem_append_right _ (List.mem_append_right _ (List.mem_append_right _ (List.mem_append_right _ (List.mem_append_right _ (List.mem_append_right _ (List.mem_append_right _ (List.mem_append_right _ (List.mem_append_right _ (List.mem_append_right _ (List.mem_append_right _ (List.mem_append_right _ (List.mem_append_right _ (List.mem_append_right _ (List.mem_append_left _ h)))))))))))))))
theorem inA_wA_16 : ∀ w ∈ wA_16, w ∈ wAll := fun w h => List.mem_append_right _ (List.mem_append_right _ (List.mem_append_right _ (List.mem_append_right _ (List.mem_append_right _ (List.mem_append_right _ (List.mem_append_right _ (List.mem_append_right _ (List.mem_append_right _ (List.mem_append_right _ (List.mem_append_right _ (List.mem_append_right _ (List.mem_append_right _ (List.mem_append_right _ (List.mem_append_right _ (List.mem_append_right _ (List.mem_append_left _ h))))))))))))))))
theorem inA_wA_17 : ∀ w ∈ wA_17, w ∈ wAll := fun w h => List.mem_append_right _ (List.mem_append_right _ (List.mem_append_right _ (List.mem_append_right _ (List.mem_append_right _ (List.mem_append_right _ (List.mem_append_right _ (List.mem_append_right _ (List.mem_append_right _ (List.mem_append_right _ (List.mem_append_right _ (List.mem_append_right _ (List.mem_append_right _ (List.mem_append_right _ (List.mem_append_right _ (List.mem_append_right _ (List.mem_append_right _ (List.mem_append_left _ h)))))))))))))))))
theorem inA_wA_18 : ∀ w ∈ wA_18, w ∈ wAll := fun w h => List.mem_append_right _ (List.mem_append_right _ (List.mem_append_right _ (List.mem_append_right _ (List.mem_append_right _ (List.mem_append_right _ (List.mem_append_right _ (List.mem_append_right _ (List.mem_append_right _ (List.mem_append_right _ (List.mem_append_right _ (List.mem_append_right _ (List.mem_append_right _ (List.mem_append_right _ (List.mem_append_right _ (List.mem_append_right _ (List.mem_append_right _ (List.mem_append_right _ (List.mem_append_left _ h))))))))))))))))))
theorem inA_wA_19 : ∀ w ∈ wA_19, w ∈ wAll := fun w h => List.mem_append_right _ (List.mem_append_right _ (List.mem_append_right _ (List.mem_append_right _ (List.mem_append_right _ (List.mem_append_right _ (List.mem_append_right _ (List.mem_append_right _ (List.mem_append_right _ (List.mem_append_right _ (List.mem_append_right _ (List.mem_append_right _ (List.mem_append_right _ (List.mem_append_right _ (List.mem_append_right _ (List.mem_append_right _ (List.mem_append_right _ (List.mem_append_right _ (List.mem_append_right _ (List.mem_append_left _ h)))))))))))))))))))
theorem inA_wA_20 : ∀ w ∈ wA_20, w ∈ wAll := fun w h => List.mem_append_right _ (List.mem_append_right _ (List.mem_append_right _ (List.mem_append_right _ (List.mem_append_right _ (List.mem_append_right _ (List.mem_append_right _ (List.mem_append_right _ (List.mem_append_right _ (List.mem_append_right _ (List.mem_append_right _ (List.mem_append_right _ (List.mem_append_right _ (List.mem_append_right _ (List.mem_append_right _ (List.mem_append_right _ (List.mem_append_right _ (List.mem_append_right _ (List.mem_append_right _ (List.mem_append_right _ (List.mem_append_left _ h))))))))))))))))))))
theorem inA_wA_21 : ∀ w ∈ wA_21, w ∈ wAll := fun w h => List.mem_append_right _ (List.mem_append_right _ (List.mem_append_right _ (List.mem_append_right _ (List.mem_append_right _ (List.mem_append_right _ (List.mem_append_right _ (List.mem_append_right _ (List.mem_append_right _ (List.mem_append_right _ (List.mem_append_right _ (List.mem_append_right _ (List.mem_append_right _ (List.mem_append_right _ (List.mem_append_right _ (List.mem_append_right _ (List.mem_append_right _ (List.mem_append_right _ (List.mem_append_right _ (List.mem_append_right _ (List.mem_append_right _ (List.mem_append_left _ h)))))))))))))))))))))
theorem inA_wA_22 : ∀ w ∈ wA_22, w ∈ wAll := fun w h => List.mem_append_right _ (List.mem_append_right _ (List.mem_append_right _ (List.mem_append_right _ (List.mem_append_right _ (List.mem_append_right _ (List.mem_append_right _ (List.mem_append_right _ (List.mem_append_right _ (List.mem_append_right _ (List.mem_append_right _ (List.mem_append_right _ (List.mem_append_right _ (List.mem_append_right _ (List.mem_append_right _ (List.mem_append_right _ (List.mem_append_right _ (List.mem_append_right _ (List.mem_append_right _ (List.mem_append_right _ (List.mem_append_right _ (List.mem_append_right _ (List.mem_append_left _ h))))))))))))))))))))))
theorem inA_wA_23 : ∀ w ∈ wA_23, w ∈ wAll := fun w h => List.mem_append_right _ (List.mem_append_right _ (List.mem_append_right _ (List.mem_append_right _ (List.mem_append_right _ (List.mem_append_right _ (List.mem_append_right _ (List.mem_append_right _ (List.mem_append_right _ (List.mem_append_right _ (List.mem_append_right _ (List.mem_append_right _ (List.mem_append_right _ (List.mem_append_right _ (List.mem_append_right _ (List.mem_append_right _ (List.mem_append_right _ (List.mem_append_right _ (List.mem_append_right _ (List.mem_append_right _ (List.mem_append_right _ (List.mem_append_right _ (List.mem_append_right _ (List.mem_append_left _ h)))))))))))))))))))))))
theorem inA_wA_24 : ∀ w ∈ wA_24, w ∈ wAll := fun w h => List.mem_append_right _ (List.mem_append_right _ (List.mem_append_right _ (List.mem_append_right _ (List.mem_append_right _ (List.mem_append_right _ (List.mem_append_right _ (List.mem_append_right _ (List.mem_append_right _ (List.mem_append_right _ (List.mem_append_right _ (List.mem_append_right _ (List.mem_append_right _ (List.mem_append_right _ (List.mem_append_right _ (List.mem_append_right _ (List.mem_append_right _ (List.mem_append_right _ (List.mem_append_right _ (List.mem_append_right _ (List.mem_append_right _ (List.mem_append_right _ (List.mem_append_right _ (List.mem_append_right _ (List.mem_append_left _ h))))))))))))))))))))))))
theorem inA_wA_25 : ∀ w ∈ wA_25, w ∈ wAll := fun w h => List.mem_append_right _ (List.mem_append_right _ (List.mem_append_right _ (List.mem_append_right _ (List.mem_append_right _ (List.mem_append_right _ (List.mem_append_right _ (List.mem_append_right _ (List.mem_append_right _ (List.mem_append_right _ (List.mem_append_right _ (List.mem_append_right _ (List.mem_append_right _ (List.mem_append_right _ (List.mem_append_right _ (List.mem_append_right _ (List.mem_append_right _ (List.mem_append_right _ (List.mem_append_right _ (List.mem_append_right _ (List.mem_append_right _ (List.mem_append_right _ (List.mem_append_right _ (List.mem_append_right _ (List.mem_append_right _ (List.mem_append_left _ h)))))))))))))))))))))))))
theorem inA_wA_26 : ∀ w ∈ wA_26, w ∈ wAll := fun w h => List.mem_append_right _ (List.mem_append_right _ (List.mem_append_right _ (List.mem_append_right _ (List.mem_append_right _ (List.mem_append_right _ (List.mem_append_right _ (List.mem_append_right _ (List.mem_append_right _ (List.mem_append_right _ (List.mem_append_right _ (List.mem_append_right _ (List.mem_append_right _ (List.mem_append_right _ (List.mem_append_right _ (List.mem_append_right _ (List.mem_append_right _ (List.mem_append_right _ (List.mem_append_right _ (List.mem_append_right _ (List.mem_append_right _ (List.mem_append_right _ (List.mem_append_right _ (List.mem_append_right _ (List.mem_append_right _ (List.mem_append_right _ (List.mem_append_left _ h))))))))))))))))))))))))))
theorem inA_wA_27 : ∀ w ∈ wA_27, w ∈ wAll := fun w h => List.mem_append_right _ (List.mem_append_right _ (List.mem_append_right _ (List.mem_append_right _ (List.mem_append_right _ (List.mem_append_right _ (List.mem_append_right _ (List.mem_append_right _ (List.mem_append_right _ (List.mem_append_right _ (List.mem_append_right _ (List.mem_append_right _ (List.mem_append_right _ (List.mem_append_right _ (List.mem_append_right _ (List.mem_append_right _ (List.mem_append_right _ (List.mem_append_right _ (List.mem_append_right _ (List.mem_append_right _ (List.mem_append_right _ (List.mem_append_right _ (List.mem_append_right _ (List.mem_append_right _ (List.mem_append_right _ (List.mem_append_right _ (List.mem_append_right _ (List.mem_append_left _ h)))))))))))))))))))))))))))
theorem inA_wA_28 : ∀ w ∈ wA_28, w ∈ wAll := fun w h => List.mem_append_right _ (List.mem_append_right _ (List.mem_append_right _ (List.mem_append_right _ (List.mem_append_right _ (List.mem_append_right _ (List.mem_append_right _ (List.mem_append_right _ (List.mem_append_right _ (List.mem_append_right _ (List.mem_append_right _ (List.mem_append_right _ (List.mem_append_right _ (List.mem_append_right _ (List.mem_append_right _ (List.mem_append_right _ (List.mem_append_right _ (List.mem_append_right _ (List.mem_append_right _ (List.mem_append_right _ (List.mem_append_right _ (List.mem_append_right _ (List.mem_append_right _ (List.mem_append_right _ (List.mem_append_right _ (List.mem_append_right _ (List.mem_append_right _ (List.mem_append_right _ (List.mem_append_left _ h))))))))))))))))))))))))))))
theorem inA_wA_29 : ∀ w ∈ wA_29, w ∈ wAll := fun w h => List.mem_append_right _ (List.mem_append_right _ (List.mem_append_right _ (List.mem_append_right _ (List.mem_append_right _ (List.mem_append_right _ (List.mem_append_right _ (List.mem_append_right _ (List.mem_append_right _ (List.mem_append_right _ (List.mem_append_right _ (List.mem_append_right _ (List.mem_append_right _ (List.mem_append_right _ (List.mem_append_right _ (List.mem_append_right _ (List.mem_append_right _ (List.mem_append_right _ (List.mem_append_right _ (List.mem_append_right _ (List.mem_append_right _ (List.mem_append_right _ (List.mem_append_right _ (List.mem_append_right _ (List.mem_append_right _ (List.mem_append_right _ (List.mem_append_right _ (List.mem_append_right _ (List.mem_append_right _ (List.mem_append_left _ h)))))))))))))))))))))))))))))
theorem inA_wA_30 : ∀ w ∈ wA_30, w ∈ wAll := fun w h => List.mem_append_right _ (List.mem_append_right _ (List.mem_append_right _ (List.mem_append_right _ (List.mem_append_right _ (List.mem_append_right _ (List.mem_append_right _ (List.mem_append_right _ (List.mem_append_right _ (List.mem_append_right _ (List.mem_append_right _ (List.mem_append_right _ (List.mem_append_right _ (List.mem_append_right _ (List.mem_append_right _ (List.mem_append_right _ (List.mem_append_right _ (List.mem_append_right _ (List.mem_append_right _ (List.mem_append_right _ (List.mem_append_right _ (List.mem_append_right _ (List.mem_append_right _ (List.mem_append_right _ (List.mem_append_right _ (List.mem_append_right _ (List.mem_append_right _ (List.mem_append_right _ (List.mem_append_right _ (List.mem_append_right _ (List.mem_append_left _ h))))))))))))))))))))))))))))))
theorem inA_wA_31 : ∀ w ∈ wA_31, w ∈ wAll := fun w h => List.mem_append_right _ (List.mem_append_right _ (List.mem_append_right _ (List.mem_append_right _ (List.mem_append_right _ (List.mem_append_right _ (List.mem_append_right _ (List.mem_append_right _ (List.mem_append_right _ (List.mem_append_right _ (List.mem_append_right _ (List.mem_append_right _ (List.mem_append_right _ (List.mem_append_right _ (List.mem_append_right _ (List.mem_append_right _ (List.mem_append_right _ (List.mem_append_right _ (List.mem_append_right _ (List.mem_append_right _ (List.mem_append_right _ (List.mem_append_right _ (List.mem_append_right _ (List.mem_append_right _ (List.mem_append_right _ (List.mem_append_right _ (List.mem_append_right _ (List.mem_append_right _ (List.mem_append_right _ (List.mem_append_right _ (List.mem_append_right _ (List.mem_append_left _ h)))))))))))))))))))))))))))))))
theorem inA_wA_32 : ∀ w ∈ wA_32, w ∈ wAll := fun w h => List.mem_append_right _ (List.mem_append_right _ (List.mem_append_right _ (List.mem_append_right _ (List.mem_append_right _ (List.mem_append_right _ (List.mem_append_right _ (List.mem_append_right _ (List.mem_append_right _ (List.mem_append_right _ (List.mem_append_right _ (List.mem_append_right _ (List.mem_append_right _ (List.mem_append_right _ (List.mem_append_right _ (List.mem_append_right _ (List.mem_append_right _ (List.mem_append_right _ (List.mem_append_right _ (List.mem_append_right _ (List.mem_append_right _ (List.mem_append_right _ (List.mem_append_right _ (List.mem_append_right _ (List.mem_append_right _ (List.mem_append_right _ (List.mem_append_right _ (List.mem_append_right _ (List.mem_append_right _ (List.mem_append_right _ (List.mem_append_right _ (List.mem_append_right _ (List.mem_append_left _ h))))))))))))))))))))))))))))))))
theorem inA_wA_33 : ∀ w ∈ wA_33, w ∈ wAll := fun w h => List.mem_append_right _ (List.mem_append_right _ (List.mem_append_right _ (List.mem_append_right _ (List.mem_append_right _ (List.mem_append_right _ (List.mem_append_right _ (List.mem_append_right _ (List.mem_append_right _ (List.mem_append_right _ (List.mem_append_right _ (List.mem_append_right _ (List.mem_append_right _ (List.mem_append_right _ (List.mem_append_right _ (List.mem_append_right _ (List.mem_append_right _ (List.mem_append_right _ (List.mem_append_right _ (List.mem_append_right _ (List.mem_append_right _ (List.mem_append_right _ (List.mem_append_right _ (List.mem_append_right _ (List.mem_append_right _ (List.mem_append_right _ (List.mem_append_right _ (List.mem_append_right _ (List.mem_append_right _ (List.mem_append_right _ (List.mem_append_right _ (List.mem_append_right _ (List.mem_append_right _ (List.mem_append_left _ h)))))))))))))))))))))))))))))))))
theorem inA_wA_34 : ∀ w ∈ wA_34, w ∈ wAll := fun w h => List.mem_append_right _ (List.mem_append_right _ (List.mem_append_right _ (List.mem_append_right _ (List.mem_append_right _ (List.mem_append_right _ (List.mem_append_right _ (List.mem_append_right _ (List.mem_append_right _ (List.mem_append_right _ (List.mem_append_right _ (List.mem_append_right _ (List.mem_append_right _ (List.mem_append_right _ (List.mem_append_right _ (List.mem_append_right _ (List.mem_append_right _ (List.mem_append_right _ (List.mem_append_right _ (List.mem_append_right _ (List.mem_append_right _ (List.mem_append_right _ (List.mem_append_right _ (List.mem_append_right _ (List.mem_append_right _ (List.mem_append_right _ (List.mem_append_right _ (List.mem_append_right _ (List.mem_append_right _ (List.mem_append_right _ (List.mem_append_right _ (List.mem_append_right _ (List.mem_append_right _ (List.mem_append_right _ (List.mem_append_left _ h))))))))))))))))))))))))))))))))))
theorem inA_wA_35 : ∀ w ∈ wA_35, w ∈ wAll := fun w h => List.mem_append_right _ (List.mem_append_right _ (List.mem_append_right _ (List.mem_append_right _ (List.mem_append_right _ (List.mem_append_right _ (List.mem_append_right _ (List.mem_append_right _ (List.mem_append_right _ (List.mem_append_right _ (List.mem_append_right _ (List.mem_append_right _ (List.mem_append_right _ (List.mem_append_right _ (List.mem_append_right _ (List.mem_append_right _ (List.mem_append_right _ (List.mem_append_right _ (List.mem_append_right _ (List.mem_append_right _ (List.mem_append_right _ (List.mem_append_right _ (List.mem_append_right _ (List.mem_append_right _ (List.mem_append_right _ (List.mem_append_right _ (List.mem_append_right _ (List.mem_append_right _ (List.mem_append_right _ (List.mem_append_right _ (List.mem_append_right _ (List.mem_append_right _ (List.mem_append_right _ (List.mem_append_right _ (List.mem_append_right _ (List.mem_append_left _ h)))))))))))))))))))))))))))))))))))
theorem inA_wA_36 : ∀ w ∈ wA_36, w ∈ wAll := fun w h => List.mem_append_right _ (List.mem_append_right _ (List.mem_append_right _ (List.mem_append_right _ (List.mem_append_right _ (List.mem_append_right _ (List.mem_append_right _ (List.mem_append_right _ (List.mem_append_right _ (List.mem_append_right _ (List.mem_append_right _ (List.mem_append_right _ (List.mem_append_right _ (List.mem_append_right _ (List.mem_append_right _ (List.mem_append_right _ (List.mem_append_right _ (List.mem_append_right _ (List.mem_append_right _ (List.mem_append_right _ (List.mem_append_right _ (List.mem_append_right _ (List.mem_append_right _ (List.mem_append_right _ (List.mem_append_right _ (List.mem_append_right _ (List.mem_append_right _ (List.mem_append_right _ (List.mem_append_right _ (List.mem_append_right _ (List.mem_append_right _ (List.mem_append_right _ (List.mem_append_right _ (List.mem_append_right _ (List.mem_append_right _ (List.mem_append_right _ (List.mem_append_left _ h))))))))))))))))))))))))))))))))))))
theorem inA_wA_37 : ∀ w ∈ wA_37, w ∈ wAll := fun w h => List.mem_append_right _ (List.mem_append_right _ (List.mem_append_right _ (List.mem_append_right _ (List.mem_append_right _ (List.mem_append_right _ (List.mem_append_right _ (List.mem_append_right _ (List.mem_append_right _ (List.mem_append_right _ (List.mem_append_right _ (List.mem_append_right _ (List.mem_append_right _ (List.mem_append_right _ (List.mem_append_right _ (List.mem_append_right _ (List.mem_append_right _ (List.mem_append_right _ (List.mem_append_right _ (List.mem_append_right _ (List.mem_append_right _ (List.mem_append_right _ (List.mem_append_right _ (List.mem_append_right _ (List.mem_append_right _ (List.mem_append_right _ (List.mem_append_right _ (List.mem_append_right _ (List.mem_append_right _ (List.mem_append_right _ (List.mem_append_right _ (List.mem_append_right _ (List.mem_append_right _ (List.mem_append_right _ (List.mem_append_right _ (List.mem_append_right _ (List.mem_append_right _ (List.mem_append_left _ h)))))))))))))))))))))))))))))))))))))
theorem inA_wA_38 : ∀ w ∈ wA_38, w ∈ wAll := fun w h => List.mem_append_right _ (List.mem_append_right _ (List.mem_append_right _ (List.mem_append_right _ (List.mem_append_right _ (List.mem_append_right _ (List.mem_append_right _ (List.mem_append_right _ (List.mem_append_right _ (List.mem_append_right _ (List.mem_append_right _ (List.mem_append_right _ (List.mem_append_right _ (List.mem_append_right _ (List.mem_append_right _ (List.mem_append_right _ (List.mem_append_right _ (List.mem_append_right _ (List.mem_append_right _ (List.mem_append_right _ (List.mem_append_right _ (List.mem_append_right _ (List.mem_append_right _ (List.mem_append_right _ (List.mem_append_right _ (List.mem_append_right _ (List.mem_append_right _ (List.mem_append_right _ (List.mem_append_right _ (List.mem_append_right _ (List.mem_append_right _ (List.mem_append_right _ (List.mem_append_right _ (List.mem_append_right _ (List.mem_append_right _ (List.mem_append_right _ (List.mem_append_right _ (List.mem_append_right _ (List.mem_append_left _ h))))))))))))))))))))))))))))))))))))))
theorem inA_wA_39 : ∀ w ∈ wA_39, w ∈ wAll := fun w h => List.mem_append_right _ (List.mem_append_right _ (List.mem_append_right _ (List.mem_append_right _ (List.mem_append_right _ (List.mem_append_right _ (List.mem_append_right _ (List.mem_append_right _ (List.mem_append_right _ (List.mem_append_right _ (List.mem_append_right _ (List.mem_append_right _ (List.mem_append_right _ (List.mem_append_right _ (List.mem_append_right _ (List.mem_append_right _ (List.mem_append_right _ (List.mem_append_right _ (List.mem_append_right _ (List.mem_append_right _ (List.mem_append_right _ (List.mem_append_right _ (List.mem_append_right _ (List.mem_append_right _ (List.mem_append_right _ (List.mem_append_right _ (List.mem_append_right _ (List.mem_append_right _ (List.mem_append_right _ (List.mem_append_right _ (List.mem_append_right _ (List.mem_append_right _ (List.mem_append_right _ (List.mem_append_right _ (List.mem_append_right _ (List.mem_append_right _ (List.mem_append_right _ (List.mem_append_right _ (List.mem_append_right _ (List.mem_append_left _ h)))))))))))))))))))))))))))))))))))))))
theorem inA_wA_40 : ∀ w ∈ wA_40, w ∈ wAll := fun w h => List.mem_append_right _ (List.mem_append_right _ (List.mem_append_right _ (List.mem_append_right _ (List.mem_append_right _ (List.mem_append_right _ (List.mem_append_right _ (List.mem_append_right _ (List.mem_append_right _ (List.mem_append_right _ (List.mem_append_right _ (List.mem_append_right _ (List.mem_append_right _ (List.mem_append_right _ (List.mem_append_right _ (List.mem_append_right _ (List.mem_append_right _ (List.mem_append_right _ (List.mem_append_right _ (List.mem_append_right _ (List.mem_append_right _ (List.mem_append_right _ (List.mem_append_right _ (List.mem_append_right _ (List.mem_append_right _ (List.mem_append_right _ (List.mem_append_right _ (List.mem_append_right _ (List.mem_append_right _ (List.mem_append_right _ (List.mem_append_right _ (List.mem_append_right _ (List.mem_append_right _ (List.mem_append_right _ (List.mem_append_right _ (List.mem_append_right _ (List.mem_append_right _ (List.mem_append_right _ (List.mem_append_right _ (List.mem_append_right _ (List.mem_append_left _ h))))))))))))))))))))))))))))))))))))))))
theorem inA_wA_41 : ∀ w ∈ wA_41, w ∈ wAll := fun w h => List.mem_append_right _ (List.mem_append_right _ (List.mem_append_right _ (List.mem_append_right _ (List.mem_append_right _ (List.mem_append_right _ (List.mem_append_right _ (List.mem_append_right _ (List.mem_append_right _ (List.mem_append_right _ (List.mem_append_right _ (List.mem_append_right _ (List.mem_append_right _ (List.mem_append_right _ (List.mem_append_right _ (List.mem_append_right _ (List.mem_append_right _ (List.mem_append_right _ (List.mem_append_right _ (List.mem_append_right _ (List.mem_append_right _ (List.mem_append_right _ (List.mem_append_right _ (List.mem_append_right _ (List.mem_append_right _ (List.mem_append_right _ (List.mem_append_right _ (List.mem_append_right _ (List.mem_append_right _ (List.mem_append_right _ (List.mem_append_right _ (List.mem_append_right _ (List.mem_append_right _ (List.mem_append_right _ (List.mem_append_right _ (List.mem_append_right _ (List.mem_append_right _ (List.mem_append_right _ (List.mem_append_right _ (List.mem_append_right _ (List.mem_append_right _ (List.mem_append_left _ h)))))))))))))))))))))))))))))))))))))))))
theorem inA_wA_42 : ∀ w ∈ wA_42, w ∈ wAll := fun w h => List.mem_append_right _ (List.mem_append_right _ (List.mem_append_right _ (List.mem_append_right _ (List.mem_append_right _ (List.mem_append_right _ (List.mem_append_right _ (List.mem_append_right _ (List.mem_append_right _ (List.mem_append_right _ (List.mem_append_right _ (List.mem_append_right _ (List.mem_append_right _ (List.mem_append_right _ (List.mem_append_right _ (List.mem_append_right _ (List.mem_append_right _ (List.mem_append_right _ (List.mem_append_right _ (List.mem_append_right _ (List.mem_append_right _ (List.mem_append_right _ (List.mem_append_right _ (List.mem_append_right _ (List.mem_append_right _ (List.mem_append_right _ (List.mem_append_right _ (List.mem_append_right _ (List.mem_append_right _ (List.mem_append_right _ (List.mem_append_right _ (List.mem_append_right _ (List.mem_append_right _ (List.mem_append_right _ (List.mem_append_right _ (List.mem_append_right _ (List.mem_append_right _ (List.mem_append_right _ (List.mem_append_right _ (List.mem_append_right _ (List.mem_append_right _ (List.mem_append_right _ (List.mem_append_left _ h))))))))))))))))))))))))))))))))))))))))))
theorem inA_wA_43 : ∀ w ∈ wA_43, w ∈ wAll := fun w h => List.mem_append_right _ (List.mem_append_right _ (List.mem_append_right _ (List.mem_append_right _ (List.mem_append_right _ (List.mem_append_right _ (List.mem_append_right _ (List.mem_append_right _ (List.mem_append_right _ (List.mem_append_right _ (List.mem_append_right _ (List.mem_append_right _ (List.mem_append_right _ (List.mem_append_right _ (List.mem_append_right _ (List.mem_append_right _ (List.mem_append_right _ (List.mem_append_right _ (List.mem_append_right _ (List.mem_append_right _ (List.mem_append_right _ (List.mem_append_right _ (List.mem_append_right _ (List.mem_append_right _ (List.mem_append_right _ (List.mem_append_right _ (List.mem_append_right _ (List.mem_append_right _ (List.mem_append_right _ (List.mem_append_right _ (List.mem_append_right _ (List.mem_append_right _ (List.mem_append_right _ (List.mem_append_right _ (List.mem_append_right _ (List.mem_append_right _ (List.mem_append_right _ (List.mem_append_right _ (List.mem_append_right _ (List.mem_append_right _ (List.mem_append_right _ (List.mem_append_right _ (List.mem_append_right _ (List.mem_append_left _ h)))))))))))))))))))))))))))))))))))))))))))
theorem inA_wA_44 : ∀ w ∈ wA_44, w ∈ wAll := fun w h => List.mem_append_right _ (List.mem_append_right _ (List.mem_append_right _ (List.mem_append_right _ (List.mem_append_right _ (List.mem_append_right _ (List.mem_append_right _ (List.mem_append_right _ (List.mem_append_right _ (List.mem_append_right _ (List.mem_append_right _ (List.mem_append_right _ (List.mem_append_right _ (List.mem_append_right _ (List.mem_append_right _ (List.mem_append_right _ (List.mem_append_right _ (List.mem_append_right _ (List.mem_append_right _ (List.mem_append_right _ (List.mem_append_right _ (List.mem_append_right _ (List.mem_append_right _ (List.mem_append_right _ (List.mem_append_right _ (List.mem_append_right _ (List.mem_append_right _ (List.mem_append_right _ (List.mem_append_right _ (List.mem_append_right _ (List.mem_append_right _ (List.mem_append_right _ (List.mem_append_right _ (List.mem_append_right _ (List.mem_append_right _ (List.mem_append_right _ (List.mem_append_right _ (List.mem_append_right _ (List.mem_append_right _ (List.mem_append_right _ (List.mem_append_right _ (List.mem_append_right _ (List.mem_append_right _ (List.mem_append_right _ (List.mem_append_left _ h))))))))))))))))))))))))))))))))))))))))))))
theorem inA_wA_45 : ∀ w ∈ wA_45, w ∈ wAll := fun w h => List.mem_append_right _ (List.mem_append_right _ (List.mem_append_right _ (List.mem_append_right _ (List.mem_append_right _ (List.mem_append_right _ (List.mem_append_right _ (List.mem_append_right _ (List.mem_append_right _ (List.mem_append_right _ (List.mem_append_right _ (List.mem_append_right _ (List.mem_append_right _ (List.mem_append_right _ (List.mem_append_right _ (List.mem_append_right _ (List.mem_append_right _ (List.mem_append_right _ (List.mem_append_right _ (List.mem_append_right _ (List.mem_append_right _ (List.mem_append_right _ (List.mem_append_right _ (List.mem_append_right _ (List.mem_append_right _ (List.mem_append_right _ (List.mem_append_right _ (List.mem_append_right _ (List.mem_append_right _ (List.mem_append_right _ (List.mem_append_right _ (List.mem_append_right _ (List.mem_append_right _ (List.mem_append_right _ (List.mem_append_right _ (List.mem_append_right _ (List.mem_append_right _ (List.mem_append_right _ (List.mem_append_right _ (List.mem_append_right _ (List.mem_append_right _ (List.mem_append_right _ (List.mem_append_right _ (List.mem_append_right _ (List.mem_append_right _ (List.mem_append_left _ h)))))))))))))))))))))))))))))))))))))))))))))
theorem inA_wA_46 : ∀ w ∈ wA_46, w ∈ wAll := fun w h => List.mem_append_right _ (List.mem_append_right _ (List.mem_append_right _ (List.mem_append_right _ (List.mem_append_right _ (List.mem_append_right _ (List.mem_append_right _ (List.mem_append_right _ (List.mem_append_right _ (List.mem_append_right _ (List.mem_append_right _ (List.mem_append_right _ (List.mem_append_right _ (List.mem_append_right _ (List.mem_append_right _ (List.mem_append_right _ (List.mem_append_right _ (List.mem_append_right _ (List.mem_append_right _ (List.mem_append_right _ (List.mem_append_right _ (List.mem_append_right _ (List.mem_append_right _ (List.mem_append_right _ (List.mem_append_right _ (List.mem_append_right _ (List.mem_append_right _ (List.mem_append_right _ (List.mem_append_right _ (List.mem_append_right _ (List.mem_append_right _ (List.mem_append_right _ (List.mem_append_right _ (List.mem_append_right _ (List.mem_append_right _ (List.mem_append_right _ (List.mem_append_right _ (List.mem_append_right _ (List.mem_append_right _ (List.mem_append_right _ (List.mem_append_right _ (List.mem_append_right _ (List.mem_append_right _ (List.mem_append_right _ (List.mem_append_right _ (List.mem_append_right _ (List.mem_append_left _ h))))))))))))))))))))))))))))))))))))))))))))))
theorem inA_wA_47 : ∀ w ∈ wA_47, w ∈ wAll := fun w h => List.mem_append_right _ (List.mem_append_right _ (List.mem_append_right _ (List.mem_append_right _ (List.mem_append_right _ (List.mem_append_right _ (List.mem_append_right _ (List.mem_append_right _ (List.mem_append_right _ (List.mem_append_right _ (List.mem_append_right _ (List.mem_append_right _ (List.mem_append_right _ (List.mem_append_right _ (List.mem_append_right _ (List.mem_append_right _ (List.mem_append_right _ (List.mem_append_right _ (List.mem_append_right _ (List.mem_append_right _ (List.mem_append_right _ (List.mem_append_right _ (List.mem_append_right _ (List.mem_append_right _ (List.mem_append_right _ (List.mem_append_right _ (List.mem_append_right _ (List.mem_append_right _ (List.mem_append_right _ (List.mem_append_right _ (List.mem_append_right _ (List.mem_append_right _ (List.mem_append_right _ (List.mem_append_right _ (List.mem_append_right _ (List.mem_append_right _ (List.mem_append_right _ (List.mem_append_right _ (List.mem_append_right _ (List.mem_append_right _ (List.mem_append_right _ (List.mem_append_right _ (List.mem_append_right _ (List.mem_append_right _ (List.mem_append_right _ (List.mem_append_right _ (List.mem_append_right _ (List.mem_append_left _ h)))))))))))))))))))))))))))))))))))))))))))))))
theorem inA_wA_48 : ∀ w ∈ wA_48, w ∈ wAll := fun w h => List.mem_append_right _ (List.mem_append_right _ (List.mem_append_right _ (List.mem_append_right _ (List.mem_append_right _ (List.mem_append_right _ (List.mem_append_right _ (List.mem_append_right _ (List.mem_append_right _ (List.mem_append_right _ (List.mem_append_right _ (List.mem_append_right _ (List.mem_append_right _ (List.mem_append_right _ (List.mem_append_right _ (List.mem_append_right _ (List.mem_append_right _ (List.mem_append_right _ (List.mem_append_right _ (List.mem_append_right _ (List.mem_append_right _ (List.mem_append_right _ (List.mem_append_right _ (List.mem_append_right _ (List.mem_append_right _ (List.mem_append_right _ (List.mem_append_right _ (List.mem_append_right _ (List.mem_append_right _ (List.mem_append_right _ (List.mem_append_right _ (List.mem_append_right _ (List.mem_append_right _ (List.mem_append_right _ (List.mem_append_right _ (List.mem_append_right _ (List.mem_append_right _ (List.mem_append_right _ (List.mem_append_right _ (List.mem_append_right _ (List.mem_append_right _ (List.mem_append_right _ (List.mem_append_right _ (List.mem_append_right _ (List.mem_append_right _ (List.mem_append_right _ (List.mem_append_right _ (List.mem_append_right _ (List.mem_append_left _ h))))))))))))))))))))))))))))))))))))))))))))))))
theorem inA_wA_49 : ∀ w ∈ wA_49, w ∈ wAll := fun w h => List.mem_append_right _ (List.mem_append_right _ (List.mem_append_right _ (List.mem_append_right _ (List.mem_append_right _ (List.mem_append_right _ (List.mem_append_right _ (List.mem_append_right _ (List.mem_append_right _ (List.mem_append_right _ (List.mem_append_right _ (List.mem_append_right _ (List.mem_append_right _ (List.mem_append_right _ (List.mem_append_right _ (List.mem_append_right _ (List.mem_append_right _ (List.mem_append_right _ (List.mem_append_right _ (List.mem_append_right _ (List.mem_append_right _ (List.mem_append_right _ (List.mem_append_right _ (List.mem_append_right _ (List.mem_append_right _ (List.mem_append_right _ (List.mem_append_right _ (List.mem_append_right _ (List.mem_append_right _ (List.mem_append_right _ (List.mem_append_right _ (List.mem_append_right _ (List.mem_append_right _ (List.mem_append_right _ (List.mem_append_right _ (List.mem_append_right _ (List.mem_append_right _ (List.mem_append_right _ (List.mem_append_right _ (List.mem_append_right _ (List.mem_append_right _ (List.mem_append_right _ (List.mem_append_right _ (List.mem_append_right _ (List.mem_append_right _ (List.mem_append_right _ (List.mem_append_right _ (List.mem_append_right _ (List.mem_append_right _ (List.mem_append_left _ h)))))))))))))))))))))))))))))))))))))))))))))))))
theorem inA_wA_50 : ∀ w ∈ wA_50, w ∈ wAll := fun w h => List.mem_append_right _ (List.mem_append_right _ (List.mem_append_right _ (List.mem_append_right _ (List.mem_append_right _ (List.mem_append_right _ (List.mem_append_right _ (List.mem_append_right _ (List.mem_append_right _ (List.mem_append_right _ (List.mem_append_right _ (List.mem_append_right _ (List.mem_append_right _ (List.mem_append_right _ (List.mem_append_right _ (List.mem_append_right _ (List.mem_append_right _ (List.mem_append_right _ (List.mem_append_right _ (List.mem_append_right _ (List.mem_append_right _ (List.mem_append_right _ (List.mem_append_right _ (List.mem_append_right _ (List.mem_append_right _ (List.mem_append_right _ (List.mem_append_right _ (List.mem_append_right _ (List.mem_append_right _ (List.mem_append_right _ (List.mem_append_right _ (List.mem_append_right _ (List.mem_append_right _ (List.mem_append_right _ (List.mem_append_right _ (List.mem_append_right _ (List.mem_append_right _ (List.mem_append_right _ (List.mem_append_right _ (List.mem_append_right _ (List.mem_append_right _ (List.mem_append_right _ (List.mem_append_right _ (List.mem_append_right _ (List.mem_append_right _ (List.mem_append_right _ (List.mem_append_right _ (List.mem_append_right _ (List.mem_append_right _ (List.mem_append_right _ (List.mem_append_left _ h))))))))))))))))))))))))))))))))))))))))))))))))))
theorem inA_wA_51 : ∀ w ∈ wA_51, w ∈ wAll := fun w h => List.mem_append_right _ (List.mem_append_right _ (List.mem_append_right _ (List.mem_append_right _ (List.mem_append_right _ (List.mem_append_right _ (List.mem_append_right _ (List.mem_append_right _ (List.mem_append_right _ (List.mem_append_right _ (List.mem_append_right _ (List.mem_append_right _ (List.mem_append_right _ (List.mem_append_right _ (List.mem_append_right _ (List.mem_append_right _ (List.mem_append_right _ (List.mem_append_right _ (List.mem_append_right _ (List.mem_append_right _ (List.mem_append_right _ (List.mem_append_right _ (List.mem_append_right _ (List.mem_append_right _ (List.mem_append_right _ (List.mem_append_right _ (List.mem_append_right _ (List.mem_append_right _ (List.mem_append_right _ (List.mem_append_right _ (List.mem_append_right _ (List.mem_append_right _ (List.mem_append_right _ (List.mem_append_right _ (List.mem_append_right _ (List.mem_append_right _ (List.mem_append_right _ (List.mem_append_right _ (List.mem_append_right _ (List.mem_append_right _ (List.mem_append_right _ (List.mem_append_right _ (List.mem_append_right _ (List.mem_append_right _ (List.mem_append_right _ (List.mem_append_right _ (List.mem_append_right _ (List.mem_append_right _ (List.mem_append_right _ (List.mem_append_right _ (List.mem_append_right _ (List.mem_append_left _ h)))))))))))))))))))))))))))))))))))))))))))))))))))
theorem inA_wA_52 : ∀ w ∈ wA_52, w ∈ wAll := fun w h => List.mem_append_right _ (List.mem_append_right _ (List.mem_append_right _ (List.mem_append_right _ (List.mem_append_right _ (List.mem_append_right _ (List.mem_append_right _ (List.mem_append_right _ (List.mem_append_right _ (List.mem_append_right _ (List.mem_append_right _ (List.mem_append_right _ (List.mem_append_right _ (List.mem_append_right _ (List.mem_append_right _ (List.mem_append_right _ (List.mem_append_right _ (List.mem_append_right _ (List.mem_append_right _ (List.mem_append_right _ (List.mem_append_right _ (List.mem_append_right _ (List.mem_append_right _ (List.mem_append_right _ (List.mem_append_right _ (List.mem_append_right _ (List.mem_append_right _ (List.mem_append_right _ (List.mem_append_right _ (List.mem_append_right _ (List.mem_append_right _ (List.mem_append_right _ (List.mem_append_right _ (List.mem_append_right _ (List.mem_append_right _ (List.mem_append_right _ (List.mem_append_right _ (List.mem_append_right _ (List.mem_append_right _ (List.mem_append_right _ (List.mem_append_right _ (List.mem_append_right _ (List.mem_append_right _ (List.mem_append_right _ (List.mem_append_right _ (List.mem_append_right _ (List.mem_append_right _ (List.mem_append_right _ (List.mem_append_right _ (List.mem_append_right _ (List.mem_append_right _ (List.mem_append_right _ (List.mem_append_left _ h))))))))))))))))))))))))))))))))))))))))))))))))))))
theorem inA_wA_53 : ∀ w ∈ wA_53, w ∈ wAll := fun w h => List.mem_append_right _ (List.mem_append_right _ (List.mem_append_right _ (List.mem_append_right _ (List.mem_append_right _ (List.mem_append_right _ (List.mem_append_right _ (List.mem_append_right _ (List.mem_append_right _ (List.mem_append_right _ (List.mem_append_right _ (List.mem_append_right _ (List.mem_append_right _ (List.mem_append_right _ (List.mem_append_right _ (List.mem_append_right _ (List.mem_append_right _ (List.mem_append_right _ (List.mem_append_right _ (List.mem_append_right _ (List.mem_append_right _ (List.mem_append_right _ (List.mem_append_right _ (List.mem_append_right _ (List.mem_append_right _ (List.mem_append_right _ (List.mem_append_right _ (List.mem_append_right _ (List.mem_append_right _ (List.mem_append_right _ (List.mem_append_right _ (List.mem_append_right _ (List.mem_append_right _ (List.mem_append_right _ (List.mem_append_right _ (List.mem_append_right _ (List.mem_append_right _ (List.mem_append_right _ (List.mem_append_right _ (List.mem_append_right _ (List.mem_append_right _ (List.mem_append_right _ (List.mem_append_right _ (List.mem_append_right _ (List.mem_append_right _ (List.mem_append_right _ (List.mem_append_right _ (List.mem_append_right _ (List.mem_append_right _ (List.mem_append_right _ (List.mem_append_right _ (List.mem_append_right _ (List.mem_append_right _ (List.mem_append_left _ h)))))))))))))))))))))))))))))))))))))))))))))))))))))
theorem inA_wA_54 : ∀ w ∈ wA_54, w ∈ wAll := fun w h => List.mem_append_right _ (List.mem_append_right _ (List.mem_append_right _ (List.mem_append_right _ (List.mem_append_right _ (List.mem_append_right _ (List.mem_append_right _ (List.mem_append_right _ (List.mem_append_right _ (List.mem_append_right _ (List.mem_append_right _ (List.mem_append_right _ (List.mem_append_right _ (List.mem_append_right _ (List.mem_append_right _ (List.mem_append_right _ (List.mem_append_right _ (List.mem_append_right _ (List.mem_append_right _ (List.mem_append_right _ (List.mem_append_right _ (List.mem_append_right _ (List.mem_append_right _ (List.mem_append_right _ (List.mem_append_right _ (List.mem_append_right _ (List.mem_append_right _ (List.mem_append_right _ (List.mem_append_right _ (List.mem_append_right _ (List.mem_append_right _ (List.mem_append_right _ (List.mem_append_right _ (List.mem_append_right _ (List.mem_append_right _ (List.mem_append_right _ (List.mem_append_right _ (List.mem_append_right _ (List.mem_append_right _ (List.mem_append_right _ (List.mem_append_right _ (List.mem_append_right _ (List.mem_append_right _ (List.mem_append_right _ (List.mem_append_right _ (List.mem_append_right _ (List.mem_append_right _ (List.mem_append_right _ (List.mem_append_right _ (List.mem_append_right _ (List.mem_append_right _ (List.mem_append_right _ (List.mem_append_right _ (List.mem_append_right _ (List.mem_append_left _ h))))))))))))))))))))))))))))))))))))))))))))))))))))))
theorem inA_wA_55 : ∀ w ∈ wA_55, w ∈ wAll := fun w h => List.mem_append_right _ (List.mem_append_right _ (List.mem_append_right _ (List.mem_append_right _ (List.mem_append_right _ (List.mem_append_right _ (List.mem_append_right _ (List.mem_append_right _ (List.mem_append_right _ (List.mem_append_right _ (List.mem_append_right _ (List.mem_append_right _ (List.mem_append_right _ (List.mem_append_right _ (List.mem_append_right _ (List.mem_append_right _ (List.mem_append_right _ (List.mem_append_right _ (List.mem_append_right _ (List.mem_append_right _ (List.mem_append_right _ (List.mem_append_right _ (List.mem_append_right _ (List.mem_append_right _ (List.mem_append_right _ (List.mem_append_right _ (List.mem_append_right _ (List.mem_append_right _ (List.mem_append_right _ (List.mem_append_right _ (List.mem_append_right _ (List.mem_append_right _ (List.mem_append_right _ (List.mem_append_right _ (List.mem_append_right _ (List.mem_append_right _ (List.mem_append_right _ (List.mem_append_right _ (List.mem_append_right _ (List.mem_append_right _ (List.mem_append_right _ (List.mem_append_right _ (List.mem_append_right _ (List.mem_append_right _ (List.mem_append_right _ (List.mem_append_right _ (List.mem_append_right _ (List.mem_append_right _ (List.mem_append_right _ (List.mem_append_right _ (List.mem_append_right _ (List.mem_append_right _ (List.mem_append_right _ (List.mem_append_right _ (List.mem_append_right _ (List.mem_append_left _ h)))))))))))))))))))))))))))))))))))))))))))))))))))))))
theorem inA_wA_56 : ∀ w ∈ wA_56, w ∈ wAll := fun w h => List.mem_append_right _ (List.mem_append_right _ (List.mem_append_right _ (List.mem_append_right _ (List.mem_append_right _ (List.mem_append_right _ (List.mem_append_right _ (List.mem_append_right _ (List.mem_append_right _ (List.mem_append_right _ (List.mem_append_right _ (List.mem_append_right _ (List.mem_append_right _ (List.mem_append_right _ (List.mem_append_right _ (List.mem_append_right _ (List.mem_append_right _ (List.mem_append_right _ (List.mem_append_right _ (List.mem_append_right _ (List.mem_append_right _ (List.mem_append_right _ (List.mem_append_right _ (List.mem_append_right _ (List.mem_append_right _ (List.mem_append_right _ (List.mem_append_right _ (List.mem_append_right _ (List.mem_append_right _ (List.mem_append_right _ (List.mem_append_right _ (List.mem_append_right _ (List.mem_append_right _ (List.mem_append_right _ (List.mem_append_right _ (List.mem_append_right _ (List.mem_append_right _ (List.mem_append_right _ (List.mem_append_right _ (List.mem_append_right _ (List.mem_append_right _ (List.mem_append_right _ (List.mem_append_right _ (List.mem_append_right _ (List.mem_append_right _ (List.mem_append_right _ (List.mem_append_right _ (List.mem_append_right _ (List.mem_append_right _ (List.mem_append_right _ (List.mem_append_right _ (List.mem_append_right _ (List.mem_append_right _ (List.mem_append_right _ (List.mem_append_right _ (List.mem_append_right _ (List.mem_append_left _ h))))))))))))))))))))))))))))))))))))))))))))))))))))))))
theorem inA_wsX00 : ∀ w ∈ wsX00, w ∈ wAll := fun w h => List.mem_append_right _ (List.mem_append_right _ (List.mem_append_right _ (List.mem_append_right _ (List.mem_append_right _ (List.mem_append_right _ (List.mem_append_right _ (List.mem_append_right _ (List.mem_append_right _ (List.mem_append_right _ (List.mem_append_right _ (List.mem_append_right _ (List.mem_append_right _ (List.mem_append_right _ (List.mem_append_right _ (List.mem_append_right _ (List.mem_append_right _ (List.mem_append_right _ (List.mem_append_right _ (List.mem_append_right _ (List.mem_append_right _ (List.mem_append_right _ (List.mem_append_right _ (List.mem_append_right _ (List.mem_append_right _ (List.mem_append_right _ (List.mem_append_right _ (List.mem_append_right _ (List.mem_append_right _ (List.mem_append_right _ (List.mem_append_right _ (List.mem_append_right _ (List.mem_append_right _ (List.mem_append_right _ (List.mem_append_right _ (List.mem_append_right _ (List.mem_append_right _ (List.mem_append_right _ (List.mem_append_right _ (List.mem_append_right _ (List.mem_append_right _ (List.mem_append_right _ (List.mem_append_right _ (List.mem_append_right _ (List.mem_append_right _ (List.mem_append_right _ (List.mem_append_right _ (List.mem_append_right _ (List.mem_append_right _ (List.mem_append_right _ (List.mem_append_right _ (List.mem_append_right _ (List.mem_append_right _ (List.mem_append_right _ (List.mem_append_right _ (List.mem_append_right _ (List.mem_append_right _ (List.mem_append_left _ h)))))))))))))))))))))))))))))))))))))))))))))))))))))))))
theorem inA_wsX10 : ∀ w ∈ wsX10, w ∈ wAll := fun w h => List.mem_append_right _ (List.mem_append_right _ (List.mem_append_right _ (List.mem_append_right _ (List.mem_append_right _ (List.mem_append_right _ (List.mem_append_right _ (List.mem_append_right _ (List.mem_append_right _ (List.mem_append_right _ (List.mem_append_right _ (List.mem_append_right _ (List.mem_append_right _ (List.mem_append_right _ (List.mem_append_right _ (List.mem_append_right _ (List.mem_append_right _ (List.mem_append_right _ (List.mem_append_right _ (List.mem_append_right _ (List.mem_append_right _ (List.mem_append_right _ (List.mem_append_right _ (List.mem_append_right _ (List.mem_append_right _ (List.mem_append_right _ (List.mem_append_right _ (List.mem_append_right _ (List.mem_append_right _ (List.mem_append_right _ (List.mem_append_right _ (List.mem_append_right _ (List.mem_append_right _ (List.mem_append_right _ (List.mem_append_right _ (List.mem_append_right _ (List.mem_append_right _ (List.mem_append_right _ (List.mem_append_right _ (List.mem_append_right _ (List.mem_append_right _ (List.mem_append_right _ (List.mem_append_right _ (List.mem_append_right _ (List.mem_append_right _ (List.mem_append_right _ (List.mem_append_right _ (List.mem_append_right _ (List.mem_append_right _ (List.mem_append_right _ (List.mem_append_right _ (List.mem_append_right _ (List.mem_append_right _ (List.mem_append_right _ (List.mem_append_right _ (List.mem_append_right _ (List.mem_append_right _ (List.mem_append_right _ (List.mem_append_left _ h))))))))))))))))))))))))))))))))))))))))))))))))))))))))))
theorem inA_wsX20 : ∀ w ∈ wsX20, w ∈ wAll := fun w h => List.mem_append_right _ (List.mem_append_right _ (List.mem_append_right _ (List.mem_append_right _ (List.mem_append_right _ (List.mem_append_right _ (List.mem_append_right _ (List.mem_append_right _ (List.mem_append_right _ (List.mem_append_right _ (List.mem_append_right _ (List.mem_append_right _ (List.mem_append_right _ (List.mem_append_right _ (List.mem_append_right _ (List.mem_append_right _ (List.mem_append_right _ (List.mem_append_right _ (List.mem_append_right _ (List.mem_append_right _ (List.mem_append_right _ (List.mem_append_right _ (List.mem_append_right _ (List.mem_append_right _ (List.mem_append_right _ (List.mem_append_right _ (List.mem_append_right _ (List.mem_append_right _ (List.mem_append_right _ (List.mem_append_right _ (List.mem_append_right _ (List.mem_append_right _ (List.mem_append_right _ (List.mem_append_right _ (List.mem_append_right _ (List.mem_append_right _ (List.mem_append_right _ (List.mem_append_right _ (List.mem_append_right _ (List.mem_append_right _ (List.mem_append_right _ (List.mem_append_right _ (List.mem_append_right _ (List.mem_append_right _ (List.mem_append_right _ (List.mem_append_right _ (List.mem_append_right _ (List.mem_append_right _ (List.mem_append_right _ (List.mem_append_right _ (List.mem_append_right _ (List.mem_append_right _ (List.mem_append_right _ (List.mem_append_right _ (List.mem_append_right _ (List.mem_append_right _ (List.mem_append_right _ (List.mem_append_right _ (List.mem_append_right _ (List.mem_append_left _ h)))))))))))))))))))))))))))))))))))))))))))))))))))))))))))
theorem inA_wsX30 : ∀ w ∈ wsX30, w ∈ wAll := fun w h => List.mem_append_right _ (List.mem_append_right _ (List.mem_append_right _ (List.mem_append_right _ (List.mem_append_right _ (List.mem_append_right _ (List.mem_append_right _ (List.mem_append_right _ (List.mem_append_right _ (List.mem_append_right _ (List.mem_append_right _ (List.mem_append_right _ (List.mem_append_right _ (List.mem_append_right _ (List.mem_append_right _ (List.mem_append_right _ (List.mem_append_right _ (List.mem_append_right _ (List.mem_append_right _ (List.mem_append_right _ (List.mem_append_right _ (List.mem_append_right _ (List.mem_append_right _ (List.mem_append_right _ (List.mem_append_right _ (List.mem_append_right _ (List.mem_append_right _ (List.mem_append_right _ (List.mem_append_right _ (List.mem_append_right _ (List.mem_append_right _ (List.mem_append_right _ (List.mem_append_right _ (List.mem_append_right _ (List.mem_append_right _ (List.mem_append_right _ (List.mem_append_right _ (List.mem_append_right _ (List.mem_append_right _ (List.mem_append_right _ (List.mem_append_right _ (List.mem_append_right _ (List.mem_append_right _ (List.mem_append_right _ (List.mem_append_right _ (List.mem_append_right _ (List.mem_append_right _ (List.mem_append_right _ (List.mem_append_right _ (List.mem_append_right _ (List.mem_append_right _ (List.mem_append_right _ (List.mem_append_right _ (List.mem_append_right _ (List.mem_append_right _ (List.mem_append_right _ (List.mem_append_right _ (List.mem_append_right _ (List.mem_append_right _ (List.mem_append_right _ (List.mem_append_left _ h))))))))))))))))))))))))))))))))))))))))))))))))))))))))))))
theorem inA_wsX40 : ∀ w ∈ wsX40, w ∈ wAll := fun w h => List.mem_append_right _ (List.mem_append_right _ (List.mem_append_right _ (List.mem_append_right _ (List.mem_append_right _ (List.mem_append_right _ (List.mem_append_right _ (List.mem_append_right _ (List.mem_append_right _ (List.mem_append_right _ (List.mem_append_right _ (List.mem_append_right _ (List.mem_append_right _ (List.mem_append_right _ (List.mem_append_right _ (List.mem_append_right _ (List.mem_append_right _ (List.mem_append_right _ (List.mem_append_right _ (List.mem_append_right _ (List.mem_append_right _ (List.mem_append_right _ (List.mem_append_right _ (List.mem_append_right _ (List.mem_append_right _ (List.mem_append_right _ (List.mem_append_right _ (List.mem_append_right _ (List.mem_append_right _ (List.mem_append_right _ (List.mem_append_right _ (List.mem_append_right _ (List.mem_append_right _ (List.mem_append_right _ (List.mem_append_right _ (List.mem_append_right _ (List.mem_append_right _ (List.mem_append_right _ (List.mem_append_right _ (List.mem_append_right _ (List.mem_append_right _ (List.mem_append_right _ (List.mem_append_right _ (List.mem_append_right _ (List.mem_append_right _ (List.mem_append_right _ (List.mem_append_right _ (List.mem_append_right _ (List.mem_append_right _ (List.mem_append_right _ (List.mem_append_right _ (List.mem_append_right _ (List.mem_append_right _ (List.mem_append_right _ (List.mem_append_right _ (List.mem_append_right _ (List.mem_append_right _ (List.mem_append_right _ (List.mem_append_right _ (List.mem_append_right _ (List.mem_append_right _ (List.mem_append_left _ h)))))))))))))))))))))))))))))))))))))))))))))))))))))))))))))
theorem inA_wsX50 : ∀ w ∈ wsX50, w ∈ wAll := fun w h => List.mem_append_right _ (List.mem_append_right _ (List.mem_append_right _ (List.mem_append_right _ (List.mem_append_right _ (List.mem_append_right _ (List.mem_append_right _ (List.mem_append_right _ (List.mem_append_right _ (List.mem_append_right _ (List.mem_append_right _ (List.mem_append_right _ (List.mem_append_right _ (List.mem_append_right _ (List.mem_append_right _ (List.mem_append_right _ (List.mem_append_right _ (List.mem_append_right _ (List.mem_append_right _ (List.mem_append_right _ (List.mem_append_right _ (List.mem_append_right _ (List.mem_append_right _ (List.mem_append_right _ (List.mem_append_right _ (List.mem_append_right _ (List.mem_append_right _ (List.mem_append_right _ (List.mem_append_right _ (List.mem_append_right _ (List.mem_append_right _ (List.mem_append_right _ (List.mem_append_right _ (List.mem_append_right _ (List.mem_append_right _ (List.mem_append_right _ (List.mem_append_right _ (List.mem_append_right _ (List.mem_append_right _ (List.mem_append_right _ (List.mem_append_right _ (List.mem_append_right _ (List.mem_append_right _ (List.mem_append_right _ (List.mem_append_right _ (List.mem_append_right _ (List.mem_append_right _ (List.mem_append_right _ (List.mem_append_right _ (List.mem_append_right _ (List.mem_append_right _ (List.mem_append_right _ (List.mem_append_right _ (List.mem_append_right _ (List.mem_append_right _ (List.mem_append_right _ (List.mem_append_right _ (List.mem_append_right _ (List.mem_append_right _ (List.mem_append_right _ (List.mem_append_right _ (List.mem_append_right _ (List.mem_append_left _ h))))))))))))))))))))))))))))))))))))))))))))))))))))))))))))))
theorem inA_wsX60 : ∀ w ∈ wsX60, w ∈ wAll := fun w h => List.mem_append_right _ (List.mem_append_right _ (List.mem_append_right _ (List.mem_append_right _ (List.mem_append_right _ (List.mem_append_right _ (List.mem_append_right _ (List.mem_append_right _ (List.mem_append_right _ (List.mem_append_right _ (List.mem_append_right _ (List.mem_append_right _ (List.mem_append_right _ (List.mem_append_right _ (List.mem_append_right _ (List.mem_append_right _ (List.mem_append_right _ (List.mem_append_right _ (List.mem_append_right _ (List.mem_append_right _ (List.mem_append_right _ (List.mem_append_right _ (List.mem_append_right _ (List.mem_append_right _ (List.mem_append_right _ (List.mem_append_right _ (List.mem_append_right _ (List.mem_append_right _ (List.mem_append_right _ (List.mem_append_right _ (List.mem_append_right _ (List.mem_append_right _ (List.mem_append_right _ (List.mem_append_right _ (List.mem_append_right _ (List.mem_append_right _ (List.mem_append_right _ (List.mem_append_right _ (List.mem_append_right _ (List.mem_append_right _ (List.mem_append_right _ (List.mem_append_right _ (List.mem_append_right _ (List.mem_append_right _ (List.mem_append_right _ (List.mem_append_right _ (List.mem_append_right _ (List.mem_append_right _ (List.mem_append_right _ (List.mem_append_right _ (List.mem_append_right _ (List.mem_append_right _ (List.mem_append_right _ (List.mem_append_right _ (List.mem_append_right _ (List.mem_append_right _ (List.mem_append_right _ (List.mem_append_right _ (List.mem_append_right _ (List.mem_append_right _ (List.mem_append_right _ (List.mem_append_right _ (List.mem_append_right _ (List.mem_append_left _ h)))))))))))))))))))))))))))))))))))))))))))))))))))))))))))))))
theorem inA_wsX70 : ∀ w ∈ wsX70, w ∈ wAll := fun w h => List.mem_append_right _ (List.mem_append_right _ (List.mem_append_right _ (List.mem_append_right _ (List.mem_append_right _ (List.mem_append_right _ (List.mem_append_right _ (List.mem_append_right _ (List.mem_append_right _ (List.mem_append_right _ (List.mem_append_right _ (List.mem_append_right _ (List.mem_append_right _ (List.mem_append_right _ (List.mem_append_right _ (List.mem_append_right _ (List.mem_append_right _ (List.mem_append_right _ (List.mem_append_right _ (List.mem_append_right _ (List.mem_append_right _ (List.mem_append_right _ (List.mem_append_right _ (List.mem_append_right _ (List.mem_append_right _ (List.mem_append_right _ (List.mem_append_right _ (List.mem_append_right _ (List.mem_append_right _ (List.mem_append_right _ (List.mem_append_right _ (List.mem_append_right _ (List.mem_append_right _ (List.mem_append_right _ (List.mem_append_right _ (List.mem_append_right _ (List.mem_append_right _ (List.mem_append_right _ (List.mem_append_right _ (List.mem_append_right _ (List.mem_append_right _ (List.mem_append_right _ (List.mem_append_right _ (List.mem_append_right _ (List.mem_append_right _ (List.mem_append_right _ (List.mem_append_right _ (List.mem_append_right _ (List.mem_append_right _ (List.mem_append_right _ (List.mem_append_right _ (List.mem_append_right _ (List.mem_append_right _ (List.mem_append_right _ (List.mem_append_right _ (List.mem_append_right _ (List.mem_append_right _ (List.mem_append_right _ (List.mem_append_right _ (List.mem_append_right _ (List.mem_append_right _ (List.mem_append_right _ (List.mem_append_right _ (List.mem_append_right _ (List.mem_append_left _ h))))))))))))))))))))))))))))))))))))))))))))))))))))))))))))))))
theorem inA_wsX80 : ∀ w ∈ wsX80, w ∈ wAll := fun w h => List.mem_append_right _ (List.mem_append_right _ (List.mem_append_right _ (List.mem_append_right _ (List.mem_append_right _ (List.mem_append_right _ (List.mem_append_right _ (List.mem_append_right _ (List.mem_append_right _ (List.mem_append_right _ (List.mem_append_right _ (List.mem_append_right _ (List.mem_append_right _ (List.mem_append_right _ (List.mem_append_right _ (List.mem_append_right _ (List.mem_append_right _ (List.mem_append_right _ (List.mem_append_right _ (List.mem_append_right _ (List.mem_append_right _ (List.mem_append_right _ (List.mem_append_right _ (List.mem_append_right _ (List.mem_append_right _ (List.mem_append_right _ (List.mem_append_right _ (List.mem_append_right _ (List.mem_append_right _ (List.mem_append_right _ (List.mem_append_right _ (List.mem_append_right _ (List.mem_append_right _ (List.mem_append_right _ (List.mem_append_right _ (List.mem_append_right _ (List.mem_append_right _ (List.mem_append_right _ (List.mem_append_right _ (List.mem_append_right _ (List.mem_append_right _ (List.mem_append_right _ (List.mem_append_right _ (List.mem_append_right _ (List.mem_append_right _ (List.mem_append_right _ (List.mem_append_right _ (List.mem_append_right _ (List.mem_append_right _ (List.mem_append_right _ (List.mem_append_right _ (List.mem_append_right _ (List.mem_append_right _ (List.mem_append_right _ (List.mem_append_right _ (List.mem_append_right _ (List.mem_append_right _ (List.mem_append_right _ (List.mem_append_right _ (List.mem_append_right _ (List.mem_append_right _ (List.mem_append_right _ (List.mem_append_right _ (List.mem_append_right _ (List.mem_append_right _ (List.mem_append_left _ h)))))))))))))))))))))))))))))))))))))))))))))))))))))))))))))))))
theorem inA_wsX90 : ∀ w ∈ wsX90, w ∈ wAll := fun w h => List.mem_append_right _ (List.mem_append_right _ (List.mem_append_right _ (List.mem_append_right _ (List.mem_append_right _ (List.mem_append_right _ (List.mem_append_right _ (List.mem_append_right _ (List.mem_append_right _ (List.mem_append_right _ (List.mem_append_right _ (List.mem_append_right _ (List.mem_append_right _ (List.mem_append_right _ (List.mem_append_right _ (List.mem_append_right _ (List.mem_append_right _ (List.mem_append_right _ (List.mem_append_right _ (List.mem_append_right _ (List.mem_append_right _ (List.mem_append_right _ (List.mem_append_right _ (List.mem_append_right _ (List.mem_append_right _ (List.mem_append_right _ (List.mem_append_right _ (List.mem_append_right _ (List.mem_append_right _ (List.mem_append_right _ (List.mem_append_right _ (List.mem_append_right _ (List.mem_append_right _ (List.mem_append_right _ (List.mem_append_right _ (List.mem_append_right _ (List.mem_append_right _ (List.mem_append_right _ (List.mem_append_right _ (List.mem_append_right _ (List.mem_append_right _ (List.mem_append_right _ (List.mem_append_right _ (List.mem_append_right _ (List.mem_append_right _ (List.mem_append_right _ (List.mem_append_right _ (List.mem_append_right _ (List.mem_append_right _ (List.mem_append_right _ (List.mem_append_right _ (List.mem_append_right _ (List.mem_append_right _ (List.mem_append_right _ (List.mem_append_right _ (List.mem_append_right _ (List.mem_append_right _ (List.mem_append_right _ (List.mem_append_right _ (List.mem_append_right _ (List.mem_append_right _ (List.mem_append_right _ (List.mem_append_right _ (List.mem_append_right _ (List.mem_append_right _ (List.mem_append_right _ (List.mem_append_left _ h))))))))))))))))))))))))))))))))))))))))))))))))))))))))))))))))))
theorem inA_wsX100 : ∀ w ∈ wsX100, w ∈ wAll := fun w h => List.mem_append_right _ (List.mem_append_right _ (List.mem_append_right _ (List.mem_append_right _ (List.mem_append_right _ (List.mem_append_right _ (List.mem_append_right _ (List.mem_append_right _ (List.mem_append_right _ (List.mem_append_right _ (List.mem_append_right _ (List.mem_append_right _ (List.mem_append_right _ (List.mem_append_right _ (List.mem_append_right _ (List.mem_append_right _ (List.mem_append_right _ (List.mem_append_right _ (List.mem_append_right _ (List.mem_append_right _ (List.mem_append_right _ (List.mem_append_right _ (List.mem_append_right _ (List.mem_append_right _ (List.mem_append_right _ (List.mem_append_right _ (List.mem_append_right _ (List.mem_append_right _ (List.mem_append_right _ (List.mem_append_right _ (List.mem_append_right _ (List.mem_append_right _ (List.mem_append_right _ (List.mem_append_right _ (List.mem_append_right _ (List.mem_append_right _ (List.mem_append_right _ (List.mem_append_right _ (List.mem_append_right _ (List.mem_append_right _ (List.mem_append_right _ (List.mem_append_right _ (List.mem_append_right _ (List.mem_append_right _ (List.mem_append_right _ (List.mem_append_right _ (List.mem_append_right _ (List.mem_append_right _ (List.mem_append_right _ (List.mem_append_right _ (List.mem_append_right _ (List.mem_append_right _ (List.mem_append_right _ (List.mem_append_right _ (List.mem_append_right _ (List.mem_append_right _ (List.mem_append_right _ (List.mem_append_right _ (List.mem_append_right _ (List.mem_append_right _ (List.mem_append_right _ (List.mem_append_right _ (List.mem_append_right _ (List.mem_append_right _ (List.mem_append_right _ (List.mem_append_right _ (List.mem_append_right _ (h)))))))))))))))))))))))))))))))))))))))))))))))))))))))))))))))))))
theorem m_0 : Cond.code yJ0_charAt_5068e cJ0_charAt_5068e 2 (some .char) ∈ wAll := inA_wA_0 _ (List.mem_of_getElem? (i := 0) rfl)
theorem m_1 : Cond.methodLink RJ0 492 yJ0_isLatin1_aae02 ∈ wAll := inA_wA_0 _ (List.mem_of_getElem? (i := 1) rfl)
theorem m_2 : Cond.initialized RJ0 ∈ wAll := inA_wA_0 _ (List.mem_of_getElem? (i := 2) rfl)
theorem m_3 : Cond.instanceMethod yJ0_isLatin1_aae02 ∈ wAll := inA_wA_0 _ (List.mem_of_getElem? (i := 3) rfl)
theorem m_4 : Cond.selects RJ0 yJ0_isLatin1_aae02 yJ0_isLatin1_aae02 ∈ wAll := inA_wA_0 _ (List.mem_of_getElem? (i := 4) rfl)
theorem m_5 : Cond.fieldLink RJ0 9 "java/lang/String" "value" "[B" ∈ wAll := inA_wA_0 _ (List.mem_of_getElem? (i := 5) rfl)
theorem m_6 : Cond.methodLink RJ0 495 yJ1_charAt_3b067 ∈ wAll := inA_wA_0 _ (List.mem_of_getElem? (i := 6) rfl)
theorem m_7 : Cond.initialized RJ1 ∈ wAll := inA_wA_0 _ (List.mem_of_getElem? (i := 7) rfl)
theorem m_8 : Cond.static yJ1_charAt_3b067 ∈ wAll := inA_wA_0 _ (List.mem_of_getElem? (i := 8) rfl)
theorem m_9 : Cond.code yJ0_checkIndex_df160 cJ0_checkIndex_df160 2 none ∈ wAll := inA_wA_0 _ (List.mem_of_getElem? (i := 9) rfl)
theorem m_10 : Cond.fieldLink RJ0 1053 "jdk/internal/util/Preconditions" "SIOOBE_FORMATTER" "Ljava/util/function/BiFunction;" ∈ wAll := inA_wA_0 _ (List.mem_of_getElem? (i := 10) rfl)
theorem m_11 : Cond.methodLink RJ0 1059 yJ3_checkIndex_8e157 ∈ wAll := inA_wA_0 _ (List.mem_of_getElem? (i := 11) rfl)
theorem m_12 : Cond.initialized RJ3 ∈ wAll := inA_wA_0 _ (List.mem_of_getElem? (i := 12) rfl)
theorem m_13 : Cond.static yJ3_checkIndex_8e157 ∈ wAll := inA_wA_0 _ (List.mem_of_getElem? (i := 13) rfl)
theorem m_14 : Cond.code yJ0_coder_7d493 cJ0_coder_7d493 1 (some .byte) ∈ wAll := inA_wA_0 _ (List.mem_of_getElem? (i := 14) rfl)
theorem m_15 : Cond.fieldLink RJ0 38 "java/lang/String" "COMPACT_STRINGS" "Z" ∈ wAll := inA_wA_0 _ (List.mem_of_getElem? (i := 15) rfl)
theorem m_16 : Cond.fieldLink RJ0 15 "java/lang/String" "coder" "B" ∈ wAll := inA_wA_0 _ (List.mem_of_getElem? (i := 16) rfl)
theorem m_17 : Cond.code yJ0_isLatin1_aae02 cJ0_isLatin1_aae02 1 (some .boolean) ∈ wAll := inA_wA_0 _ (List.mem_of_getElem? (i := 17) rfl)
theorem m_18 : Cond.code yJ0_length_8abf5 cJ0_length_8abf5 1 (some .int) ∈ wAll := inA_wA_0 _ (List.mem_of_getElem? (i := 18) rfl)
theorem m_19 : Cond.methodLink RJ0 335 yJ0_coder_7d493 ∈ wAll := inA_wA_0 _ (List.mem_of_getElem? (i := 19) rfl)
theorem m_20 : Cond.instanceMethod yJ0_coder_7d493 ∈ wAll := inA_wA_0 _ (List.mem_of_getElem? (i := 20) rfl)
theorem m_21 : Cond.selects RJ0 yJ0_coder_7d493 yJ0_coder_7d493 ∈ wAll := inA_wA_0 _ (List.mem_of_getElem? (i := 21) rfl)
theorem m_22 : Cond.code yJ1_charAt_3b067 cJ1_charAt_3b067 2 (some .char) ∈ wAll := inA_wA_0 _ (List.mem_of_getElem? (i := 22) rfl)
theorem m_23 : Cond.methodLink RJ1 9 yJ0_checkIndex_df160 ∈ wAll := inA_wA_0 _ (List.mem_of_getElem? (i := 23) rfl)
theorem m_24 : Cond.static yJ0_checkIndex_df160 ∈ wAll := inA_wA_1 _ (List.mem_of_getElem? (i := 0) rfl)
theorem m_25 : Cond.code yJ3_checkIndex_8e157 cJ3_checkIndex_8e157 3 (some .int) ∈ wAll := inA_wA_1 _ (List.mem_of_getElem? (i := 1) rfl)
theorem m_26 : Cond.code yJ6_bitCount_0f7a4 cJ6_bitCount_0f7a4 1 (some .int) ∈ wAll := inA_wA_1 _ (List.mem_of_getElem? (i := 2) rfl)
theorem m_27 : Cond.constant RJ6 265 (1431655765) ∈ wAll := inA_wA_1 _ (List.mem_of_getElem? (i := 3) rfl)
theorem m_28 : Cond.constant RJ6 266 (858993459) ∈ wAll := inA_wA_1 _ (List.mem_of_getElem? (i := 4) rfl)
theorem m_29 : Cond.constant RJ6 267 (252645135) ∈ wAll := inA_wA_1 _ (List.mem_of_getElem? (i := 5) rfl)
theorem m_30 : Cond.code yJ6_numberOfTrailingZeros_0f7a4 cJ6_numberOfTrailingZeros_0f7a4 2 (some .int) ∈ wAll := inA_wA_1 _ (List.mem_of_getElem? (i := 6) rfl)
theorem m_31 : Cond.constant RJ6 264 (65536) ∈ wAll := inA_wA_1 _ (List.mem_of_getElem? (i := 7) rfl)
theorem m_32 : Cond.code yJ7_fill_53178 cJ7_fill_53178 4 none ∈ wAll := inA_wA_1 _ (List.mem_of_getElem? (i := 8) rfl)
theorem m_33 : Cond.code yJ7_fill_d0a16 cJ7_fill_d0a16 5 none ∈ wAll := inA_wA_1 _ (List.mem_of_getElem? (i := 9) rfl)
theorem m_34 : Cond.classLink RL 7 RX9 ∈ wAll := inA_wA_1 _ (List.mem_of_getElem? (i := 10) rfl)
theorem m_35 : Cond.instantiable RX9 10 ∈ wAll := inA_wA_1 _ (List.mem_of_getElem? (i := 11) rfl)
theorem m_36 : Cond.initialized RX9 ∈ wAll := inA_wA_1 _ (List.mem_of_getElem? (i := 12) rfl)
theorem m_37 : Cond.methodLink RL 9 yX9_init ∈ wAll := inA_wA_1 _ (List.mem_of_getElem? (i := 13) rfl)
theorem m_38 : Cond.instanceMethod yX9_init ∈ wAll := inA_wA_1 _ (List.mem_of_getElem? (i := 14) rfl)
theorem m_39 : Cond.classLink RL 10 RX10 ∈ wAll := inA_wA_1 _ (List.mem_of_getElem? (i := 15) rfl)
theorem m_40 : Cond.instantiable RX10 41 ∈ wAll := inA_wA_1 _ (List.mem_of_getElem? (i := 16) rfl)
theorem m_41 : Cond.initialized RX10 ∈ wAll := inA_wA_1 _ (List.mem_of_getElem? (i := 17) rfl)
theorem m_42 : Cond.methodLink RL 12 yX10_init ∈ wAll := inA_wA_1 _ (List.mem_of_getElem? (i := 18) rfl)
theorem m_43 : Cond.instanceMethod yX10_init ∈ wAll := inA_wA_1 _ (List.mem_of_getElem? (i := 19) rfl)
theorem m_44 : Cond.methodLink RL 13 yX9_feed ∈ wAll := inA_wA_1 _ (List.mem_of_getElem? (i := 20) rfl)
theorem m_45 : Cond.instanceMethod yX9_feed ∈ wAll := inA_wA_1 _ (List.mem_of_getElem? (i := 21) rfl)
theorem m_46 : Cond.selects RX9 yX9_feed yX9_feed ∈ wAll := inA_wA_1 _ (List.mem_of_getElem? (i := 22) rfl)
theorem m_47 : Cond.methodLink RL 17 yX10_feed ∈ wAll := inA_wA_1 _ (List.mem_of_getElem? (i := 23) rfl)
theorem m_48 : Cond.instanceMethod yX10_feed ∈ wAll := inA_wA_2 _ (List.mem_of_getElem? (i := 0) rfl)
theorem m_49 : Cond.selects RX10 yX10_feed yX10_feed ∈ wAll := inA_wA_2 _ (List.mem_of_getElem? (i := 1) rfl)
theorem m_50 : Cond.methodLink RL 18 yX9_end ∈ wAll := inA_wA_2 _ (List.mem_of_getElem? (i := 2) rfl)
theorem m_51 : Cond.instanceMethod yX9_end ∈ wAll := inA_wA_2 _ (List.mem_of_getElem? (i := 3) rfl)
theorem m_52 : Cond.selects RX9 yX9_end yX9_end ∈ wAll := inA_wA_2 _ (List.mem_of_getElem? (i := 4) rfl)
theorem m_53 : Cond.methodLink RL 22 yX10_end ∈ wAll := inA_wA_2 _ (List.mem_of_getElem? (i := 5) rfl)
theorem m_54 : Cond.instanceMethod yX10_end ∈ wAll := inA_wA_2 _ (List.mem_of_getElem? (i := 6) rfl)
theorem m_55 : Cond.selects RX10 yX10_end yX10_end ∈ wAll := inA_wA_2 _ (List.mem_of_getElem? (i := 7) rfl)
theorem m_56 : Cond.methodLink RL 23 yX9_town ∈ wAll := inA_wA_2 _ (List.mem_of_getElem? (i := 8) rfl)
theorem m_57 : Cond.instanceMethod yX9_town ∈ wAll := inA_wA_2 _ (List.mem_of_getElem? (i := 9) rfl)
theorem m_58 : Cond.selects RX9 yX9_town yX9_town ∈ wAll := inA_wA_2 _ (List.mem_of_getElem? (i := 10) rfl)
theorem m_59 : Cond.methodLink RL 27 yX10_town ∈ wAll := inA_wA_2 _ (List.mem_of_getElem? (i := 11) rfl)
theorem m_60 : Cond.instanceMethod yX10_town ∈ wAll := inA_wA_2 _ (List.mem_of_getElem? (i := 12) rfl)
theorem m_61 : Cond.selects RX10 yX10_town yX10_town ∈ wAll := inA_wA_2 _ (List.mem_of_getElem? (i := 13) rfl)
theorem m_62 : Cond.methodLink RL 28 yX9_fault ∈ wAll := inA_wA_2 _ (List.mem_of_getElem? (i := 14) rfl)
theorem m_63 : Cond.instanceMethod yX9_fault ∈ wAll := inA_wA_2 _ (List.mem_of_getElem? (i := 15) rfl)
theorem m_64 : Cond.selects RX9 yX9_fault yX9_fault ∈ wAll := inA_wA_2 _ (List.mem_of_getElem? (i := 16) rfl)
theorem m_65 : Cond.methodLink RL 31 yX10_fault ∈ wAll := inA_wA_2 _ (List.mem_of_getElem? (i := 17) rfl)
theorem m_66 : Cond.instanceMethod yX10_fault ∈ wAll := inA_wA_2 _ (List.mem_of_getElem? (i := 18) rfl)
theorem m_67 : Cond.selects RX10 yX10_fault yX10_fault ∈ wAll := inA_wA_2 _ (List.mem_of_getElem? (i := 19) rfl)
theorem m_68 : Cond.methodLink RL 32 yX9_days ∈ wAll := inA_wA_2 _ (List.mem_of_getElem? (i := 20) rfl)
theorem m_69 : Cond.instanceMethod yX9_days ∈ wAll := inA_wA_2 _ (List.mem_of_getElem? (i := 21) rfl)
theorem m_70 : Cond.selects RX9 yX9_days yX9_days ∈ wAll := inA_wA_2 _ (List.mem_of_getElem? (i := 22) rfl)
theorem m_71 : Cond.methodLink RL 35 yX10_days ∈ wAll := inA_wA_2 _ (List.mem_of_getElem? (i := 23) rfl)
theorem m_72 : Cond.instanceMethod yX10_days ∈ wAll := inA_wA_3 _ (List.mem_of_getElem? (i := 0) rfl)
theorem m_73 : Cond.selects RX10 yX10_days yX10_days ∈ wAll := inA_wA_3 _ (List.mem_of_getElem? (i := 1) rfl)
theorem m_74 : Cond.methodLink RL 36 yX9_bars ∈ wAll := inA_wA_3 _ (List.mem_of_getElem? (i := 2) rfl)
theorem m_75 : Cond.instanceMethod yX9_bars ∈ wAll := inA_wA_3 _ (List.mem_of_getElem? (i := 3) rfl)
theorem m_76 : Cond.selects RX9 yX9_bars yX9_bars ∈ wAll := inA_wA_3 _ (List.mem_of_getElem? (i := 4) rfl)
theorem m_77 : Cond.methodLink RL 40 yX10_bars ∈ wAll := inA_wA_3 _ (List.mem_of_getElem? (i := 5) rfl)
theorem m_78 : Cond.instanceMethod yX10_bars ∈ wAll := inA_wA_3 _ (List.mem_of_getElem? (i := 6) rfl)
theorem m_79 : Cond.selects RX10 yX10_bars yX10_bars ∈ wAll := inA_wA_3 _ (List.mem_of_getElem? (i := 7) rfl)
theorem m_80 : Cond.methodLink RL 41 yX9_does ∈ wAll := inA_wA_3 _ (List.mem_of_getElem? (i := 8) rfl)
theorem m_81 : Cond.instanceMethod yX9_does ∈ wAll := inA_wA_3 _ (List.mem_of_getElem? (i := 9) rfl)
theorem m_82 : Cond.selects RX9 yX9_does yX9_does ∈ wAll := inA_wA_3 _ (List.mem_of_getElem? (i := 10) rfl)
theorem m_83 : Cond.methodLink RL 44 yX10_does ∈ wAll := inA_wA_3 _ (List.mem_of_getElem? (i := 11) rfl)
theorem m_84 : Cond.instanceMethod yX10_does ∈ wAll := inA_wA_3 _ (List.mem_of_getElem? (i := 12) rfl)
theorem m_85 : Cond.selects RX10 yX10_does yX10_does ∈ wAll := inA_wA_3 _ (List.mem_of_getElem? (i := 13) rfl)
theorem m_86 : Cond.methodLink RL 45 yX9_meet ∈ wAll := inA_wA_3 _ (List.mem_of_getElem? (i := 14) rfl)
theorem m_87 : Cond.instanceMethod yX9_meet ∈ wAll := inA_wA_3 _ (List.mem_of_getElem? (i := 15) rfl)
theorem m_88 : Cond.selects RX9 yX9_meet yX9_meet ∈ wAll := inA_wA_3 _ (List.mem_of_getElem? (i := 16) rfl)
theorem m_89 : Cond.methodLink RL 49 yX10_meet ∈ wAll := inA_wA_3 _ (List.mem_of_getElem? (i := 17) rfl)
theorem m_90 : Cond.instanceMethod yX10_meet ∈ wAll := inA_wA_3 _ (List.mem_of_getElem? (i := 18) rfl)
theorem m_91 : Cond.selects RX10 yX10_meet yX10_meet ∈ wAll := inA_wA_3 _ (List.mem_of_getElem? (i := 19) rfl)
theorem m_92 : Cond.methodLink RL 50 yX9_done ∈ wAll := inA_wA_3 _ (List.mem_of_getElem? (i := 20) rfl)
theorem m_93 : Cond.instanceMethod yX9_done ∈ wAll := inA_wA_3 _ (List.mem_of_getElem? (i := 21) rfl)
theorem m_94 : Cond.selects RX9 yX9_done yX9_done ∈ wAll := inA_wA_3 _ (List.mem_of_getElem? (i := 22) rfl)
theorem m_95 : Cond.methodLink RL 53 yX10_done ∈ wAll := inA_wA_3 _ (List.mem_of_getElem? (i := 23) rfl)
theorem m_96 : Cond.instanceMethod yX10_done ∈ wAll := inA_wA_4 _ (List.mem_of_getElem? (i := 0) rfl)
theorem m_97 : Cond.selects RX10 yX10_done yX10_done ∈ wAll := inA_wA_4 _ (List.mem_of_getElem? (i := 1) rfl)
theorem m_98 : Cond.methodLink RL 54 yX9_known ∈ wAll := inA_wA_4 _ (List.mem_of_getElem? (i := 2) rfl)
theorem m_99 : Cond.instanceMethod yX9_known ∈ wAll := inA_wA_4 _ (List.mem_of_getElem? (i := 3) rfl)
theorem m_100 : Cond.selects RX9 yX9_known yX9_known ∈ wAll := inA_wA_4 _ (List.mem_of_getElem? (i := 4) rfl)
theorem m_101 : Cond.methodLink RL 57 yX10_known ∈ wAll := inA_wA_4 _ (List.mem_of_getElem? (i := 5) rfl)
theorem m_102 : Cond.instanceMethod yX10_known ∈ wAll := inA_wA_4 _ (List.mem_of_getElem? (i := 6) rfl)
theorem m_103 : Cond.selects RX10 yX10_known yX10_known ∈ wAll := inA_wA_4 _ (List.mem_of_getElem? (i := 7) rfl)
theorem m_104 : Cond.methodLink RL 58 yX9_debts ∈ wAll := inA_wA_4 _ (List.mem_of_getElem? (i := 8) rfl)
theorem m_105 : Cond.instanceMethod yX9_debts ∈ wAll := inA_wA_4 _ (List.mem_of_getElem? (i := 9) rfl)
theorem m_106 : Cond.selects RX9 yX9_debts yX9_debts ∈ wAll := inA_wA_4 _ (List.mem_of_getElem? (i := 10) rfl)
theorem m_107 : Cond.methodLink RL 61 yX10_debts ∈ wAll := inA_wA_4 _ (List.mem_of_getElem? (i := 11) rfl)
theorem m_108 : Cond.instanceMethod yX10_debts ∈ wAll := inA_wA_4 _ (List.mem_of_getElem? (i := 12) rfl)
theorem m_109 : Cond.selects RX10 yX10_debts yX10_debts ∈ wAll := inA_wA_4 _ (List.mem_of_getElem? (i := 13) rfl)
theorem m_110 : Cond.methodLink RL 62 yX9_debt ∈ wAll := inA_wA_4 _ (List.mem_of_getElem? (i := 14) rfl)
theorem m_111 : Cond.instanceMethod yX9_debt ∈ wAll := inA_wA_4 _ (List.mem_of_getElem? (i := 15) rfl)
theorem m_112 : Cond.selects RX9 yX9_debt yX9_debt ∈ wAll := inA_wA_4 _ (List.mem_of_getElem? (i := 16) rfl)
theorem m_113 : Cond.methodLink RL 65 yX10_debt ∈ wAll := inA_wA_4 _ (List.mem_of_getElem? (i := 17) rfl)
theorem m_114 : Cond.instanceMethod yX10_debt ∈ wAll := inA_wA_4 _ (List.mem_of_getElem? (i := 18) rfl)
theorem m_115 : Cond.selects RX10 yX10_debt yX10_debt ∈ wAll := inA_wA_4 _ (List.mem_of_getElem? (i := 19) rfl)
theorem m_116 : Cond.methodLink RL 66 yX9_slights ∈ wAll := inA_wA_4 _ (List.mem_of_getElem? (i := 20) rfl)
theorem m_117 : Cond.instanceMethod yX9_slights ∈ wAll := inA_wA_4 _ (List.mem_of_getElem? (i := 21) rfl)
theorem m_118 : Cond.selects RX9 yX9_slights yX9_slights ∈ wAll := inA_wA_4 _ (List.mem_of_getElem? (i := 22) rfl)
theorem m_119 : Cond.methodLink RL 69 yX10_slights ∈ wAll := inA_wA_4 _ (List.mem_of_getElem? (i := 23) rfl)
theorem m_120 : Cond.instanceMethod yX10_slights ∈ wAll := inA_wA_5 _ (List.mem_of_getElem? (i := 0) rfl)
theorem m_121 : Cond.selects RX10 yX10_slights yX10_slights ∈ wAll := inA_wA_5 _ (List.mem_of_getElem? (i := 1) rfl)
theorem m_122 : Cond.methodLink RL 70 yX9_first ∈ wAll := inA_wA_5 _ (List.mem_of_getElem? (i := 2) rfl)
theorem m_123 : Cond.instanceMethod yX9_first ∈ wAll := inA_wA_5 _ (List.mem_of_getElem? (i := 3) rfl)
theorem m_124 : Cond.selects RX9 yX9_first yX9_first ∈ wAll := inA_wA_5 _ (List.mem_of_getElem? (i := 4) rfl)
theorem m_125 : Cond.methodLink RL 73 yX10_first ∈ wAll := inA_wA_5 _ (List.mem_of_getElem? (i := 5) rfl)
theorem m_126 : Cond.instanceMethod yX10_first ∈ wAll := inA_wA_5 _ (List.mem_of_getElem? (i := 6) rfl)
theorem m_127 : Cond.selects RX10 yX10_first yX10_first ∈ wAll := inA_wA_5 _ (List.mem_of_getElem? (i := 7) rfl)
theorem m_128 : Cond.methodLink RL 74 yX9_owes ∈ wAll := inA_wA_5 _ (List.mem_of_getElem? (i := 8) rfl)
theorem m_129 : Cond.instanceMethod yX9_owes ∈ wAll := inA_wA_5 _ (List.mem_of_getElem? (i := 9) rfl)
theorem m_130 : Cond.selects RX9 yX9_owes yX9_owes ∈ wAll := inA_wA_5 _ (List.mem_of_getElem? (i := 10) rfl)
theorem m_131 : Cond.methodLink RL 77 yX10_owes ∈ wAll := inA_wA_5 _ (List.mem_of_getElem? (i := 11) rfl)
theorem m_132 : Cond.instanceMethod yX10_owes ∈ wAll := inA_wA_5 _ (List.mem_of_getElem? (i := 12) rfl)
theorem m_133 : Cond.selects RX10 yX10_owes yX10_owes ∈ wAll := inA_wA_5 _ (List.mem_of_getElem? (i := 13) rfl)
theorem m_134 : Cond.methodLink RL 78 yX9_worth ∈ wAll := inA_wA_5 _ (List.mem_of_getElem? (i := 14) rfl)
theorem m_135 : Cond.instanceMethod yX9_worth ∈ wAll := inA_wA_5 _ (List.mem_of_getElem? (i := 15) rfl)
theorem m_136 : Cond.selects RX9 yX9_worth yX9_worth ∈ wAll := inA_wA_5 _ (List.mem_of_getElem? (i := 16) rfl)
theorem m_137 : Cond.methodLink RL 81 yX10_worth ∈ wAll := inA_wA_5 _ (List.mem_of_getElem? (i := 17) rfl)
theorem m_138 : Cond.instanceMethod yX10_worth ∈ wAll := inA_wA_5 _ (List.mem_of_getElem? (i := 18) rfl)
theorem m_139 : Cond.selects RX10 yX10_worth yX10_worth ∈ wAll := inA_wA_5 _ (List.mem_of_getElem? (i := 19) rfl)
theorem m_140 : Cond.methodLink RL 82 yX9_round ∈ wAll := inA_wA_5 _ (List.mem_of_getElem? (i := 20) rfl)
theorem m_141 : Cond.instanceMethod yX9_round ∈ wAll := inA_wA_5 _ (List.mem_of_getElem? (i := 21) rfl)
theorem m_142 : Cond.selects RX9 yX9_round yX9_round ∈ wAll := inA_wA_5 _ (List.mem_of_getElem? (i := 22) rfl)
theorem m_143 : Cond.methodLink RL 85 yX10_round ∈ wAll := inA_wA_5 _ (List.mem_of_getElem? (i := 23) rfl)
theorem m_144 : Cond.instanceMethod yX10_round ∈ wAll := inA_wA_6 _ (List.mem_of_getElem? (i := 0) rfl)
theorem m_145 : Cond.selects RX10 yX10_round yX10_round ∈ wAll := inA_wA_6 _ (List.mem_of_getElem? (i := 1) rfl)
theorem m_146 : Cond.methodLink RL 86 yX9_over ∈ wAll := inA_wA_6 _ (List.mem_of_getElem? (i := 2) rfl)
theorem m_147 : Cond.instanceMethod yX9_over ∈ wAll := inA_wA_6 _ (List.mem_of_getElem? (i := 3) rfl)
theorem m_148 : Cond.selects RX9 yX9_over yX9_over ∈ wAll := inA_wA_6 _ (List.mem_of_getElem? (i := 4) rfl)
theorem m_149 : Cond.methodLink RL 89 yX10_over ∈ wAll := inA_wA_6 _ (List.mem_of_getElem? (i := 5) rfl)
theorem m_150 : Cond.instanceMethod yX10_over ∈ wAll := inA_wA_6 _ (List.mem_of_getElem? (i := 6) rfl)
theorem m_151 : Cond.selects RX10 yX10_over yX10_over ∈ wAll := inA_wA_6 _ (List.mem_of_getElem? (i := 7) rfl)
theorem m_152 : Cond.methodLink RL 90 yX9_may ∈ wAll := inA_wA_6 _ (List.mem_of_getElem? (i := 8) rfl)
theorem m_153 : Cond.instanceMethod yX9_may ∈ wAll := inA_wA_6 _ (List.mem_of_getElem? (i := 9) rfl)
theorem m_154 : Cond.selects RX9 yX9_may yX9_may ∈ wAll := inA_wA_6 _ (List.mem_of_getElem? (i := 10) rfl)
theorem m_155 : Cond.methodLink RL 93 yX10_may ∈ wAll := inA_wA_6 _ (List.mem_of_getElem? (i := 11) rfl)
theorem m_156 : Cond.instanceMethod yX10_may ∈ wAll := inA_wA_6 _ (List.mem_of_getElem? (i := 12) rfl)
theorem m_157 : Cond.selects RX10 yX10_may yX10_may ∈ wAll := inA_wA_6 _ (List.mem_of_getElem? (i := 13) rfl)
theorem m_158 : Cond.methodLink RL 94 yX9_fewest ∈ wAll := inA_wA_6 _ (List.mem_of_getElem? (i := 14) rfl)
theorem m_159 : Cond.instanceMethod yX9_fewest ∈ wAll := inA_wA_6 _ (List.mem_of_getElem? (i := 15) rfl)
theorem m_160 : Cond.selects RX9 yX9_fewest yX9_fewest ∈ wAll := inA_wA_6 _ (List.mem_of_getElem? (i := 16) rfl)
theorem m_161 : Cond.methodLink RL 97 yX10_fewest ∈ wAll := inA_wA_6 _ (List.mem_of_getElem? (i := 17) rfl)
theorem m_162 : Cond.instanceMethod yX10_fewest ∈ wAll := inA_wA_6 _ (List.mem_of_getElem? (i := 18) rfl)
theorem m_163 : Cond.selects RX10 yX10_fewest yX10_fewest ∈ wAll := inA_wA_6 _ (List.mem_of_getElem? (i := 19) rfl)
theorem m_164 : Cond.methodLink RL 98 yX9_lost ∈ wAll := inA_wA_6 _ (List.mem_of_getElem? (i := 20) rfl)
theorem m_165 : Cond.instanceMethod yX9_lost ∈ wAll := inA_wA_6 _ (List.mem_of_getElem? (i := 21) rfl)
theorem m_166 : Cond.selects RX9 yX9_lost yX9_lost ∈ wAll := inA_wA_6 _ (List.mem_of_getElem? (i := 22) rfl)
theorem m_167 : Cond.methodLink RL 101 yX10_lost ∈ wAll := inA_wA_6 _ (List.mem_of_getElem? (i := 23) rfl)
theorem m_168 : Cond.instanceMethod yX10_lost ∈ wAll := inA_wA_7 _ (List.mem_of_getElem? (i := 0) rfl)
theorem m_169 : Cond.selects RX10 yX10_lost yX10_lost ∈ wAll := inA_wA_7 _ (List.mem_of_getElem? (i := 1) rfl)
theorem m_170 : Cond.methodLink RL 102 yX9_soon ∈ wAll := inA_wA_7 _ (List.mem_of_getElem? (i := 2) rfl)
theorem m_171 : Cond.instanceMethod yX9_soon ∈ wAll := inA_wA_7 _ (List.mem_of_getElem? (i := 3) rfl)
theorem m_172 : Cond.selects RX9 yX9_soon yX9_soon ∈ wAll := inA_wA_7 _ (List.mem_of_getElem? (i := 4) rfl)
theorem m_173 : Cond.methodLink RL 105 yX10_soon ∈ wAll := inA_wA_7 _ (List.mem_of_getElem? (i := 5) rfl)
theorem m_174 : Cond.instanceMethod yX10_soon ∈ wAll := inA_wA_7 _ (List.mem_of_getElem? (i := 6) rfl)
theorem m_175 : Cond.selects RX10 yX10_soon yX10_soon ∈ wAll := inA_wA_7 _ (List.mem_of_getElem? (i := 7) rfl)
theorem m_176 : Cond.methodLink RL 106 yX9_path ∈ wAll := inA_wA_7 _ (List.mem_of_getElem? (i := 8) rfl)
theorem m_177 : Cond.instanceMethod yX9_path ∈ wAll := inA_wA_7 _ (List.mem_of_getElem? (i := 9) rfl)
theorem m_178 : Cond.selects RX9 yX9_path yX9_path ∈ wAll := inA_wA_7 _ (List.mem_of_getElem? (i := 10) rfl)
theorem m_179 : Cond.methodLink RL 109 yX10_path ∈ wAll := inA_wA_7 _ (List.mem_of_getElem? (i := 11) rfl)
theorem m_180 : Cond.instanceMethod yX10_path ∈ wAll := inA_wA_7 _ (List.mem_of_getElem? (i := 12) rfl)
theorem m_181 : Cond.selects RX10 yX10_path yX10_path ∈ wAll := inA_wA_7 _ (List.mem_of_getElem? (i := 13) rfl)
theorem m_182 : Cond.methodLink RL 110 yX9_reach ∈ wAll := inA_wA_7 _ (List.mem_of_getElem? (i := 14) rfl)
theorem m_183 : Cond.instanceMethod yX9_reach ∈ wAll := inA_wA_7 _ (List.mem_of_getElem? (i := 15) rfl)
theorem m_184 : Cond.selects RX9 yX9_reach yX9_reach ∈ wAll := inA_wA_7 _ (List.mem_of_getElem? (i := 16) rfl)
theorem m_185 : Cond.methodLink RL 113 yX10_reach ∈ wAll := inA_wA_7 _ (List.mem_of_getElem? (i := 17) rfl)
theorem m_186 : Cond.instanceMethod yX10_reach ∈ wAll := inA_wA_7 _ (List.mem_of_getElem? (i := 18) rfl)
theorem m_187 : Cond.selects RX10 yX10_reach yX10_reach ∈ wAll := inA_wA_7 _ (List.mem_of_getElem? (i := 19) rfl)
theorem m_188 : Cond.methodLink RL 114 yX9_drop ∈ wAll := inA_wA_7 _ (List.mem_of_getElem? (i := 20) rfl)
theorem m_189 : Cond.instanceMethod yX9_drop ∈ wAll := inA_wA_7 _ (List.mem_of_getElem? (i := 21) rfl)
theorem m_190 : Cond.selects RX9 yX9_drop yX9_drop ∈ wAll := inA_wA_7 _ (List.mem_of_getElem? (i := 22) rfl)
theorem m_191 : Cond.methodLink RL 117 yX10_drop ∈ wAll := inA_wA_7 _ (List.mem_of_getElem? (i := 23) rfl)
theorem m_192 : Cond.instanceMethod yX10_drop ∈ wAll := inA_wA_8 _ (List.mem_of_getElem? (i := 0) rfl)
theorem m_193 : Cond.selects RX10 yX10_drop yX10_drop ∈ wAll := inA_wA_8 _ (List.mem_of_getElem? (i := 1) rfl)
theorem m_194 : Cond.methodLink RL 118 yX9_tie ∈ wAll := inA_wA_8 _ (List.mem_of_getElem? (i := 2) rfl)
theorem m_195 : Cond.instanceMethod yX9_tie ∈ wAll := inA_wA_8 _ (List.mem_of_getElem? (i := 3) rfl)
theorem m_196 : Cond.selects RX9 yX9_tie yX9_tie ∈ wAll := inA_wA_8 _ (List.mem_of_getElem? (i := 4) rfl)
theorem m_197 : Cond.methodLink RL 121 yX10_tie ∈ wAll := inA_wA_8 _ (List.mem_of_getElem? (i := 5) rfl)
theorem m_198 : Cond.instanceMethod yX10_tie ∈ wAll := inA_wA_8 _ (List.mem_of_getElem? (i := 6) rfl)
theorem m_199 : Cond.selects RX10 yX10_tie yX10_tie ∈ wAll := inA_wA_8 _ (List.mem_of_getElem? (i := 7) rfl)
theorem m_200 : Cond.methodLink RL 122 yX9_rings ∈ wAll := inA_wA_8 _ (List.mem_of_getElem? (i := 8) rfl)
theorem m_201 : Cond.instanceMethod yX9_rings ∈ wAll := inA_wA_8 _ (List.mem_of_getElem? (i := 9) rfl)
theorem m_202 : Cond.selects RX9 yX9_rings yX9_rings ∈ wAll := inA_wA_8 _ (List.mem_of_getElem? (i := 10) rfl)
theorem m_203 : Cond.methodLink RL 125 yX10_rings ∈ wAll := inA_wA_8 _ (List.mem_of_getElem? (i := 11) rfl)
theorem m_204 : Cond.instanceMethod yX10_rings ∈ wAll := inA_wA_8 _ (List.mem_of_getElem? (i := 12) rfl)
theorem m_205 : Cond.selects RX10 yX10_rings yX10_rings ∈ wAll := inA_wA_8 _ (List.mem_of_getElem? (i := 13) rfl)
theorem m_206 : Cond.methodLink RL 126 yX9_ring ∈ wAll := inA_wA_8 _ (List.mem_of_getElem? (i := 14) rfl)
theorem m_207 : Cond.instanceMethod yX9_ring ∈ wAll := inA_wA_8 _ (List.mem_of_getElem? (i := 15) rfl)
theorem m_208 : Cond.selects RX9 yX9_ring yX9_ring ∈ wAll := inA_wA_8 _ (List.mem_of_getElem? (i := 16) rfl)
theorem m_209 : Cond.methodLink RL 129 yX10_ring ∈ wAll := inA_wA_8 _ (List.mem_of_getElem? (i := 17) rfl)
theorem m_210 : Cond.instanceMethod yX10_ring ∈ wAll := inA_wA_8 _ (List.mem_of_getElem? (i := 18) rfl)
theorem m_211 : Cond.selects RX10 yX10_ring yX10_ring ∈ wAll := inA_wA_8 _ (List.mem_of_getElem? (i := 19) rfl)
theorem m_212 : Cond.methodLink RL 130 yX9_house ∈ wAll := inA_wA_8 _ (List.mem_of_getElem? (i := 20) rfl)
theorem m_213 : Cond.instanceMethod yX9_house ∈ wAll := inA_wA_8 _ (List.mem_of_getElem? (i := 21) rfl)
theorem m_214 : Cond.selects RX9 yX9_house yX9_house ∈ wAll := inA_wA_8 _ (List.mem_of_getElem? (i := 22) rfl)
theorem m_215 : Cond.methodLink RL 133 yX10_house ∈ wAll := inA_wA_8 _ (List.mem_of_getElem? (i := 23) rfl)
theorem m_216 : Cond.instanceMethod yX10_house ∈ wAll := inA_wA_9 _ (List.mem_of_getElem? (i := 0) rfl)
theorem m_217 : Cond.selects RX10 yX10_house yX10_house ∈ wAll := inA_wA_9 _ (List.mem_of_getElem? (i := 1) rfl)
theorem m_218 : Cond.methodLink RL 134 yX9_beside ∈ wAll := inA_wA_9 _ (List.mem_of_getElem? (i := 2) rfl)
theorem m_219 : Cond.instanceMethod yX9_beside ∈ wAll := inA_wA_9 _ (List.mem_of_getElem? (i := 3) rfl)
theorem m_220 : Cond.selects RX9 yX9_beside yX9_beside ∈ wAll := inA_wA_9 _ (List.mem_of_getElem? (i := 4) rfl)
theorem m_221 : Cond.methodLink RL 137 yX10_beside ∈ wAll := inA_wA_9 _ (List.mem_of_getElem? (i := 5) rfl)
theorem m_222 : Cond.instanceMethod yX10_beside ∈ wAll := inA_wA_9 _ (List.mem_of_getElem? (i := 6) rfl)
theorem m_223 : Cond.selects RX10 yX10_beside yX10_beside ∈ wAll := inA_wA_9 _ (List.mem_of_getElem? (i := 7) rfl)
theorem m_224 : Cond.methodLink RL 138 yX9_count ∈ wAll := inA_wA_9 _ (List.mem_of_getElem? (i := 8) rfl)
theorem m_225 : Cond.instanceMethod yX9_count ∈ wAll := inA_wA_9 _ (List.mem_of_getElem? (i := 9) rfl)
theorem m_226 : Cond.selects RX9 yX9_count yX9_count ∈ wAll := inA_wA_9 _ (List.mem_of_getElem? (i := 10) rfl)
theorem m_227 : Cond.methodLink RL 141 yX10_count ∈ wAll := inA_wA_9 _ (List.mem_of_getElem? (i := 11) rfl)
theorem m_228 : Cond.instanceMethod yX10_count ∈ wAll := inA_wA_9 _ (List.mem_of_getElem? (i := 12) rfl)
theorem m_229 : Cond.selects RX10 yX10_count yX10_count ∈ wAll := inA_wA_9 _ (List.mem_of_getElem? (i := 13) rfl)
theorem m_230 : Cond.methodLink RL 142 yX9_keep ∈ wAll := inA_wA_9 _ (List.mem_of_getElem? (i := 14) rfl)
theorem m_231 : Cond.instanceMethod yX9_keep ∈ wAll := inA_wA_9 _ (List.mem_of_getElem? (i := 15) rfl)
theorem m_232 : Cond.selects RX9 yX9_keep yX9_keep ∈ wAll := inA_wA_9 _ (List.mem_of_getElem? (i := 16) rfl)
theorem m_233 : Cond.methodLink RL 145 yX10_keep ∈ wAll := inA_wA_9 _ (List.mem_of_getElem? (i := 17) rfl)
theorem m_234 : Cond.instanceMethod yX10_keep ∈ wAll := inA_wA_9 _ (List.mem_of_getElem? (i := 18) rfl)
theorem m_235 : Cond.selects RX10 yX10_keep yX10_keep ∈ wAll := inA_wA_9 _ (List.mem_of_getElem? (i := 19) rfl)
theorem m_236 : Cond.methodLink RL 146 yX9_back ∈ wAll := inA_wA_9 _ (List.mem_of_getElem? (i := 20) rfl)
theorem m_237 : Cond.instanceMethod yX9_back ∈ wAll := inA_wA_9 _ (List.mem_of_getElem? (i := 21) rfl)
theorem m_238 : Cond.selects RX9 yX9_back yX9_back ∈ wAll := inA_wA_9 _ (List.mem_of_getElem? (i := 22) rfl)
theorem m_239 : Cond.methodLink RL 149 yX10_back ∈ wAll := inA_wA_9 _ (List.mem_of_getElem? (i := 23) rfl)
theorem m_240 : Cond.instanceMethod yX10_back ∈ wAll := inA_wA_10 _ (List.mem_of_getElem? (i := 0) rfl)
theorem m_241 : Cond.selects RX10 yX10_back yX10_back ∈ wAll := inA_wA_10 _ (List.mem_of_getElem? (i := 1) rfl)
theorem m_242 : Cond.methodLink RL 150 yX9_row ∈ wAll := inA_wA_10 _ (List.mem_of_getElem? (i := 2) rfl)
theorem m_243 : Cond.instanceMethod yX9_row ∈ wAll := inA_wA_10 _ (List.mem_of_getElem? (i := 3) rfl)
theorem m_244 : Cond.selects RX9 yX9_row yX9_row ∈ wAll := inA_wA_10 _ (List.mem_of_getElem? (i := 4) rfl)
theorem m_245 : Cond.methodLink RL 153 yX10_row ∈ wAll := inA_wA_10 _ (List.mem_of_getElem? (i := 5) rfl)
theorem m_246 : Cond.instanceMethod yX10_row ∈ wAll := inA_wA_10 _ (List.mem_of_getElem? (i := 6) rfl)
theorem m_247 : Cond.selects RX10 yX10_row yX10_row ∈ wAll := inA_wA_10 _ (List.mem_of_getElem? (i := 7) rfl)
theorem m_248 : Cond.constantLong RL 154 (4294967295) ∈ wAll := inA_wA_10 _ (List.mem_of_getElem? (i := 8) rfl)
theorem m_249 : Cond.methodLink RL 156 yX9_write ∈ wAll := inA_wA_10 _ (List.mem_of_getElem? (i := 9) rfl)
theorem m_250 : Cond.instanceMethod yX9_write ∈ wAll := inA_wA_10 _ (List.mem_of_getElem? (i := 10) rfl)
theorem m_251 : Cond.selects RX9 yX9_write yX9_write ∈ wAll := inA_wA_10 _ (List.mem_of_getElem? (i := 11) rfl)
theorem m_252 : Cond.methodLink RL 160 yX10_write ∈ wAll := inA_wA_10 _ (List.mem_of_getElem? (i := 12) rfl)
theorem m_253 : Cond.instanceMethod yX10_write ∈ wAll := inA_wA_10 _ (List.mem_of_getElem? (i := 13) rfl)
theorem m_254 : Cond.selects RX10 yX10_write yX10_write ∈ wAll := inA_wA_10 _ (List.mem_of_getElem? (i := 14) rfl)
theorem m_255 : Cond.methodLink RL 161 yX9_paste ∈ wAll := inA_wA_10 _ (List.mem_of_getElem? (i := 15) rfl)
theorem m_256 : Cond.instanceMethod yX9_paste ∈ wAll := inA_wA_10 _ (List.mem_of_getElem? (i := 16) rfl)
theorem m_257 : Cond.selects RX9 yX9_paste yX9_paste ∈ wAll := inA_wA_10 _ (List.mem_of_getElem? (i := 17) rfl)
theorem m_258 : Cond.methodLink RL 164 yX10_paste ∈ wAll := inA_wA_10 _ (List.mem_of_getElem? (i := 18) rfl)
theorem m_259 : Cond.instanceMethod yX10_paste ∈ wAll := inA_wA_10 _ (List.mem_of_getElem? (i := 19) rfl)
theorem m_260 : Cond.selects RX10 yX10_paste yX10_paste ∈ wAll := inA_wA_10 _ (List.mem_of_getElem? (i := 20) rfl)
theorem m_261 : Cond.code yX0_bounded cX0_bounded 3 (some .long) ∈ wAll := inA_wA_10 _ (List.mem_of_getElem? (i := 21) rfl)
theorem m_262 : Cond.constantLong RX0 72 (1000000000) ∈ wAll := inA_wA_10 _ (List.mem_of_getElem? (i := 22) rfl)
theorem m_263 : Cond.constantLong RX0 74 (-1000000000) ∈ wAll := inA_wA_10 _ (List.mem_of_getElem? (i := 23) rfl)
theorem m_264 : Cond.fieldLink RX0 56 "CardBowl$Code" "beyond" "Z" ∈ wAll := inA_wA_11 _ (List.mem_of_getElem? (i := 0) rfl)
theorem m_265 : Cond.code yX0_clear cX0_clear 1 none ∈ wAll := inA_wA_11 _ (List.mem_of_getElem? (i := 1) rfl)
theorem m_266 : Cond.fieldLink RX0 33 "CardBowl$Code" "lines" "I" ∈ wAll := inA_wA_11 _ (List.mem_of_getElem? (i := 2) rfl)
theorem m_267 : Cond.fieldLink RX0 37 "CardBowl$Code" "used" "I" ∈ wAll := inA_wA_11 _ (List.mem_of_getElem? (i := 3) rfl)
theorem m_268 : Cond.code yX0_compares cX0_compares 5 (some .boolean) ∈ wAll := inA_wA_11 _ (List.mem_of_getElem? (i := 4) rfl)
theorem m_269 : Cond.code yX0_copy cX0_copy 2 none ∈ wAll := inA_wA_11 _ (List.mem_of_getElem? (i := 5) rfl)
theorem m_270 : Cond.fieldLink RX0 9 "CardBowl$Code" "paying" "[I" ∈ wAll := inA_wA_11 _ (List.mem_of_getElem? (i := 6) rfl)
theorem m_271 : Cond.methodLink RX0 40 arraycopyName ∈ wAll := inA_wA_11 _ (List.mem_of_getElem? (i := 7) rfl)
theorem m_272 : Cond.native arraycopyName ∈ wAll := inA_wA_11 _ (List.mem_of_getElem? (i := 8) rfl)
theorem m_273 : Cond.static arraycopyName ∈ wAll := inA_wA_11 _ (List.mem_of_getElem? (i := 9) rfl)
theorem m_274 : Cond.initialized "java/lang/System" ∈ wAll := inA_wA_11 _ (List.mem_of_getElem? (i := 10) rfl)
theorem m_275 : Cond.fieldLink RX0 15 "CardBowl$Code" "kind" "[I" ∈ wAll := inA_wA_11 _ (List.mem_of_getElem? (i := 11) rfl)
theorem m_276 : Cond.fieldLink RX0 18 "CardBowl$Code" "within" "[I" ∈ wAll := inA_wA_11 _ (List.mem_of_getElem? (i := 12) rfl)
theorem m_277 : Cond.fieldLink RX0 21 "CardBowl$Code" "start" "[I" ∈ wAll := inA_wA_11 _ (List.mem_of_getElem? (i := 13) rfl)
theorem m_278 : Cond.fieldLink RX0 24 "CardBowl$Code" "stop" "[I" ∈ wAll := inA_wA_11 _ (List.mem_of_getElem? (i := 14) rfl)
theorem m_279 : Cond.fieldLink RX0 27 "CardBowl$Code" "tests" "[I" ∈ wAll := inA_wA_11 _ (List.mem_of_getElem? (i := 15) rfl)
theorem m_280 : Cond.code yX0_holds cX0_holds 13 (some .boolean) ∈ wAll := inA_wA_11 _ (List.mem_of_getElem? (i := 16) rfl)
theorem m_281 : Cond.methodLink RX0 50 Lib.Math.min.name ∈ wAll := inA_wA_11 _ (List.mem_of_getElem? (i := 17) rfl)
theorem m_282 : Cond.static Lib.Math.min.name ∈ wAll := inA_wA_11 _ (List.mem_of_getElem? (i := 18) rfl)
theorem m_283 : Cond.initialized "java/lang/Math" ∈ wAll := inA_wA_11 _ (List.mem_of_getElem? (i := 19) rfl)
theorem m_284 : Cond.code Lib.Math.min.name Lib.Math.min.code 2 (some .int) ∈ wAll := inA_wA_11 _ (List.mem_of_getElem? (i := 20) rfl)
theorem m_285 : Cond.methodLink RX0 60 yX0_partOf ∈ wAll := inA_wA_11 _ (List.mem_of_getElem? (i := 21) rfl)
theorem m_286 : Cond.initialized RX0 ∈ wAll := inA_wA_11 _ (List.mem_of_getElem? (i := 22) rfl)
theorem m_287 : Cond.instanceMethod yX0_partOf ∈ wAll := inA_wA_11 _ (List.mem_of_getElem? (i := 23) rfl)
theorem m_288 : Cond.selects RX0 yX0_partOf yX0_partOf ∈ wAll := inA_wA_12 _ (List.mem_of_getElem? (i := 0) rfl)
theorem m_289 : Cond.methodLink RX0 64 yX0_bounded ∈ wAll := inA_wA_12 _ (List.mem_of_getElem? (i := 1) rfl)
theorem m_290 : Cond.instanceMethod yX0_bounded ∈ wAll := inA_wA_12 _ (List.mem_of_getElem? (i := 2) rfl)
theorem m_291 : Cond.selects RX0 yX0_bounded yX0_bounded ∈ wAll := inA_wA_12 _ (List.mem_of_getElem? (i := 3) rfl)
theorem m_292 : Cond.methodLink RX0 68 yX0_compares ∈ wAll := inA_wA_12 _ (List.mem_of_getElem? (i := 4) rfl)
theorem m_293 : Cond.static yX0_compares ∈ wAll := inA_wA_12 _ (List.mem_of_getElem? (i := 5) rfl)
theorem m_294 : Cond.code yX0_init cX0_init 1 none ∈ wAll := inA_wA_12 _ (List.mem_of_getElem? (i := 6) rfl)
theorem m_295 : Cond.methodLink RX0 3 objectInit ∈ wAll := inA_wA_12 _ (List.mem_of_getElem? (i := 7) rfl)
theorem m_296 : Cond.instanceMethod objectInit ∈ wAll := inA_wA_12 _ (List.mem_of_getElem? (i := 8) rfl)
theorem m_297 : Cond.code objectInit ⟨#[0xb1]⟩ 1 none ∈ wAll := inA_wA_12 _ (List.mem_of_getElem? (i := 9) rfl)
theorem m_298 : Cond.arrayClass .int ∈ wAll := inA_wA_12 _ (List.mem_of_getElem? (i := 10) rfl)
theorem m_299 : Cond.fieldLink RX0 30 "CardBowl$Code" "facts" "[I" ∈ wAll := inA_wA_12 _ (List.mem_of_getElem? (i := 11) rfl)
theorem m_300 : Cond.code yX0_lineFor cX0_lineFor 8 (some .int) ∈ wAll := inA_wA_12 _ (List.mem_of_getElem? (i := 12) rfl)
theorem m_301 : Cond.methodLink RX0 46 yX0_holds ∈ wAll := inA_wA_12 _ (List.mem_of_getElem? (i := 13) rfl)
theorem m_302 : Cond.instanceMethod yX0_holds ∈ wAll := inA_wA_12 _ (List.mem_of_getElem? (i := 14) rfl)
theorem m_303 : Cond.selects RX0 yX0_holds yX0_holds ∈ wAll := inA_wA_12 _ (List.mem_of_getElem? (i := 15) rfl)
theorem m_304 : Cond.code yX0_partOf cX0_partOf 2 (some .int) ∈ wAll := inA_wA_12 _ (List.mem_of_getElem? (i := 16) rfl)
theorem m_305 : Cond.code yX0_put cX0_put 2 none ∈ wAll := inA_wA_12 _ (List.mem_of_getElem? (i := 17) rfl)
theorem m_306 : Cond.code yX1_add cX1_add 6 none ∈ wAll := inA_wA_12 _ (List.mem_of_getElem? (i := 18) rfl)
theorem m_307 : Cond.fieldLink RX1 33 "CardBowl$Debts" "size" "I" ∈ wAll := inA_wA_12 _ (List.mem_of_getElem? (i := 19) rfl)
theorem m_308 : Cond.fieldLink RX1 9 "CardBowl$Debts" "debtor" "[I" ∈ wAll := inA_wA_12 _ (List.mem_of_getElem? (i := 20) rfl)
theorem m_309 : Cond.fieldLink RX1 15 "CardBowl$Debts" "creditor" "[I" ∈ wAll := inA_wA_12 _ (List.mem_of_getElem? (i := 21) rfl)
theorem m_310 : Cond.fieldLink RX1 18 "CardBowl$Debts" "kind" "[I" ∈ wAll := inA_wA_12 _ (List.mem_of_getElem? (i := 22) rfl)
theorem m_311 : Cond.fieldLink RX1 21 "CardBowl$Debts" "due" "[I" ∈ wAll := inA_wA_12 _ (List.mem_of_getElem? (i := 23) rfl)
theorem m_312 : Cond.fieldLink RX1 24 "CardBowl$Debts" "came" "[I" ∈ wAll := inA_wA_13 _ (List.mem_of_getElem? (i := 0) rfl)
theorem m_313 : Cond.fieldLink RX1 27 "CardBowl$Debts" "open" "[I" ∈ wAll := inA_wA_13 _ (List.mem_of_getElem? (i := 1) rfl)
theorem m_314 : Cond.fieldLink RX1 30 "CardBowl$Debts" "kinds" "[I" ∈ wAll := inA_wA_13 _ (List.mem_of_getElem? (i := 2) rfl)
theorem m_315 : Cond.code yX1_clear cX1_clear 1 none ∈ wAll := inA_wA_13 _ (List.mem_of_getElem? (i := 3) rfl)
theorem m_316 : Cond.methodLink RX1 37 yJ7_fill_53178 ∈ wAll := inA_wA_13 _ (List.mem_of_getElem? (i := 4) rfl)
theorem m_317 : Cond.initialized RJ7 ∈ wAll := inA_wA_13 _ (List.mem_of_getElem? (i := 5) rfl)
theorem m_318 : Cond.static yJ7_fill_53178 ∈ wAll := inA_wA_13 _ (List.mem_of_getElem? (i := 6) rfl)
theorem m_319 : Cond.code yX1_copy cX1_copy 2 none ∈ wAll := inA_wA_13 _ (List.mem_of_getElem? (i := 7) rfl)
theorem m_320 : Cond.methodLink RX1 43 arraycopyName ∈ wAll := inA_wA_13 _ (List.mem_of_getElem? (i := 8) rfl)
theorem m_321 : Cond.code yX1_init cX1_init 1 none ∈ wAll := inA_wA_13 _ (List.mem_of_getElem? (i := 9) rfl)
theorem m_322 : Cond.methodLink RX1 3 objectInit ∈ wAll := inA_wA_13 _ (List.mem_of_getElem? (i := 10) rfl)
theorem m_323 : Cond.code yX1_kindsOf cX1_kindsOf 3 (some .int) ∈ wAll := inA_wA_13 _ (List.mem_of_getElem? (i := 11) rfl)
theorem m_324 : Cond.code yX1_move cX1_move 3 none ∈ wAll := inA_wA_13 _ (List.mem_of_getElem? (i := 12) rfl)
theorem m_325 : Cond.code yX1_nth cX1_nth 5 (some .int) ∈ wAll := inA_wA_13 _ (List.mem_of_getElem? (i := 13) rfl)
theorem m_326 : Cond.code yX1_overdue cX1_overdue 4 (some .int) ∈ wAll := inA_wA_13 _ (List.mem_of_getElem? (i := 14) rfl)
theorem m_327 : Cond.code yX1_overdueTo cX1_overdueTo 5 (some .int) ∈ wAll := inA_wA_13 _ (List.mem_of_getElem? (i := 15) rfl)
theorem m_328 : Cond.code yX1_settle cX1_settle 7 (some .int) ∈ wAll := inA_wA_13 _ (List.mem_of_getElem? (i := 16) rfl)
theorem m_329 : Cond.methodLink RX1 49 yX1_kindsOf ∈ wAll := inA_wA_13 _ (List.mem_of_getElem? (i := 17) rfl)
theorem m_330 : Cond.initialized RX1 ∈ wAll := inA_wA_13 _ (List.mem_of_getElem? (i := 18) rfl)
theorem m_331 : Cond.instanceMethod yX1_kindsOf ∈ wAll := inA_wA_13 _ (List.mem_of_getElem? (i := 19) rfl)
theorem m_332 : Cond.selects RX1 yX1_kindsOf yX1_kindsOf ∈ wAll := inA_wA_13 _ (List.mem_of_getElem? (i := 20) rfl)
theorem m_333 : Cond.methodLink RX1 53 yX1_move ∈ wAll := inA_wA_13 _ (List.mem_of_getElem? (i := 21) rfl)
theorem m_334 : Cond.instanceMethod yX1_move ∈ wAll := inA_wA_13 _ (List.mem_of_getElem? (i := 22) rfl)
theorem m_335 : Cond.selects RX1 yX1_move yX1_move ∈ wAll := inA_wA_13 _ (List.mem_of_getElem? (i := 23) rfl)
theorem m_336 : Cond.code yX10_advance cX10_advance 2 none ∈ wAll := inA_wA_14 _ (List.mem_of_getElem? (i := 0) rfl)
theorem m_337 : Cond.fieldLink RX10 115 "CardBowlModel" "at" "I" ∈ wAll := inA_wA_14 _ (List.mem_of_getElem? (i := 1) rfl)
theorem m_338 : Cond.methodLink RX10 118 yX10_see ∈ wAll := inA_wA_14 _ (List.mem_of_getElem? (i := 2) rfl)
theorem m_339 : Cond.instanceMethod yX10_see ∈ wAll := inA_wA_14 _ (List.mem_of_getElem? (i := 3) rfl)
theorem m_340 : Cond.selects RX10 yX10_see yX10_see ∈ wAll := inA_wA_14 _ (List.mem_of_getElem? (i := 4) rfl)
theorem m_341 : Cond.fieldLink RX10 122 "CardBowlModel" "from" "I" ∈ wAll := inA_wA_14 _ (List.mem_of_getElem? (i := 5) rfl)
theorem m_342 : Cond.fieldLink RX10 125 "CardBowlModel" "token" "I" ∈ wAll := inA_wA_14 _ (List.mem_of_getElem? (i := 6) rfl)
theorem m_343 : Cond.constantLong RX10 128 (97) ∈ wAll := inA_wA_14 _ (List.mem_of_getElem? (i := 7) rfl)
theorem m_344 : Cond.constantLong RX10 130 (122) ∈ wAll := inA_wA_14 _ (List.mem_of_getElem? (i := 8) rfl)
theorem m_345 : Cond.methodLink RX10 101 yX10_in ∈ wAll := inA_wA_14 _ (List.mem_of_getElem? (i := 9) rfl)
theorem m_346 : Cond.static yX10_in ∈ wAll := inA_wA_14 _ (List.mem_of_getElem? (i := 10) rfl)
theorem m_347 : Cond.constantLong RX10 132 (48) ∈ wAll := inA_wA_14 _ (List.mem_of_getElem? (i := 11) rfl)
theorem m_348 : Cond.constantLong RX10 134 (57) ∈ wAll := inA_wA_14 _ (List.mem_of_getElem? (i := 12) rfl)
theorem m_349 : Cond.fieldLink RX10 136 "CardBowlModel" "value" "I" ∈ wAll := inA_wA_14 _ (List.mem_of_getElem? (i := 13) rfl)
theorem m_350 : Cond.methodLink RX10 139 Lib.Math.min.name ∈ wAll := inA_wA_14 _ (List.mem_of_getElem? (i := 14) rfl)
theorem m_351 : Cond.code yX10_areKnown cX10_areKnown 3 (some .boolean) ∈ wAll := inA_wA_14 _ (List.mem_of_getElem? (i := 15) rfl)
theorem m_352 : Cond.fieldLink RX10 13 "CardBowlModel" "world" "[I" ∈ wAll := inA_wA_14 _ (List.mem_of_getElem? (i := 16) rfl)
theorem m_353 : Cond.methodLink RX10 294 yX10_holds ∈ wAll := inA_wA_14 _ (List.mem_of_getElem? (i := 17) rfl)
theorem m_354 : Cond.static yX10_holds ∈ wAll := inA_wA_14 _ (List.mem_of_getElem? (i := 18) rfl)
theorem m_355 : Cond.code yX10_areTwo cX10_areTwo 3 (some .boolean) ∈ wAll := inA_wA_14 _ (List.mem_of_getElem? (i := 19) rfl)
theorem m_356 : Cond.methodLink RX10 105 yX10_isHouse ∈ wAll := inA_wA_14 _ (List.mem_of_getElem? (i := 20) rfl)
theorem m_357 : Cond.instanceMethod yX10_isHouse ∈ wAll := inA_wA_14 _ (List.mem_of_getElem? (i := 21) rfl)
theorem m_358 : Cond.selects RX10 yX10_isHouse yX10_isHouse ∈ wAll := inA_wA_14 _ (List.mem_of_getElem? (i := 22) rfl)
theorem m_359 : Cond.code yX10_back cX10_back 3 (some .int) ∈ wAll := inA_wA_14 _ (List.mem_of_getElem? (i := 23) rfl)
theorem m_360 : Cond.constantLong RX10 99 (2) ∈ wAll := inA_wA_15 _ (List.mem_of_getElem? (i := 0) rfl)
theorem m_361 : Cond.fieldLink RX10 20 "CardBowlModel" "hasImage" "[Z" ∈ wAll := inA_wA_15 _ (List.mem_of_getElem? (i := 1) rfl)
theorem m_362 : Cond.fieldLink RX10 17 "CardBowlModel" "images" "[I" ∈ wAll := inA_wA_15 _ (List.mem_of_getElem? (i := 2) rfl)
theorem m_363 : Cond.code yX10_bars cX10_bars 4 (some .int) ∈ wAll := inA_wA_15 _ (List.mem_of_getElem? (i := 3) rfl)
theorem m_364 : Cond.methodLink RX10 315 yX10_areTwo ∈ wAll := inA_wA_15 _ (List.mem_of_getElem? (i := 4) rfl)
theorem m_365 : Cond.instanceMethod yX10_areTwo ∈ wAll := inA_wA_15 _ (List.mem_of_getElem? (i := 5) rfl)
theorem m_366 : Cond.selects RX10 yX10_areTwo yX10_areTwo ∈ wAll := inA_wA_15 _ (List.mem_of_getElem? (i := 6) rfl)
theorem m_367 : Cond.methodLink RX10 318 yX10_isPaying ∈ wAll := inA_wA_15 _ (List.mem_of_getElem? (i := 7) rfl)
theorem m_368 : Cond.static yX10_isPaying ∈ wAll := inA_wA_15 _ (List.mem_of_getElem? (i := 8) rfl)
theorem m_369 : Cond.methodLink RX10 321 yX10_barsOf ∈ wAll := inA_wA_15 _ (List.mem_of_getElem? (i := 9) rfl)
theorem m_370 : Cond.instanceMethod yX10_barsOf ∈ wAll := inA_wA_15 _ (List.mem_of_getElem? (i := 10) rfl)
theorem m_371 : Cond.selects RX10 yX10_barsOf yX10_barsOf ∈ wAll := inA_wA_15 _ (List.mem_of_getElem? (i := 11) rfl)
theorem m_372 : Cond.code yX10_barsOf cX10_barsOf 6 (some .int) ∈ wAll := inA_wA_15 _ (List.mem_of_getElem? (i := 12) rfl)
theorem m_373 : Cond.methodLink RX10 291 yX10_today ∈ wAll := inA_wA_15 _ (List.mem_of_getElem? (i := 13) rfl)
theorem m_374 : Cond.instanceMethod yX10_today ∈ wAll := inA_wA_15 _ (List.mem_of_getElem? (i := 14) rfl)
theorem m_375 : Cond.selects RX10 yX10_today yX10_today ∈ wAll := inA_wA_15 _ (List.mem_of_getElem? (i := 15) rfl)
theorem m_376 : Cond.methodLink RX10 301 yX10_isThere ∈ wAll := inA_wA_15 _ (List.mem_of_getElem? (i := 16) rfl)
theorem m_377 : Cond.instanceMethod yX10_isThere ∈ wAll := inA_wA_15 _ (List.mem_of_getElem? (i := 17) rfl)
theorem m_378 : Cond.selects RX10 yX10_isThere yX10_isThere ∈ wAll := inA_wA_15 _ (List.mem_of_getElem? (i := 18) rfl)
theorem m_379 : Cond.methodLink RX10 304 yX10_areKnown ∈ wAll := inA_wA_15 _ (List.mem_of_getElem? (i := 19) rfl)
theorem m_380 : Cond.instanceMethod yX10_areKnown ∈ wAll := inA_wA_15 _ (List.mem_of_getElem? (i := 20) rfl)
theorem m_381 : Cond.selects RX10 yX10_areKnown yX10_areKnown ∈ wAll := inA_wA_15 _ (List.mem_of_getElem? (i := 21) rfl)
theorem m_382 : Cond.methodLink RX10 307 yX10_isNew ∈ wAll := inA_wA_15 _ (List.mem_of_getElem? (i := 22) rfl)
theorem m_383 : Cond.instanceMethod yX10_isNew ∈ wAll := inA_wA_15 _ (List.mem_of_getElem? (i := 23) rfl)
theorem m_384 : Cond.selects RX10 yX10_isNew yX10_isNew ∈ wAll := inA_wA_16 _ (List.mem_of_getElem? (i := 0) rfl)
theorem m_385 : Cond.methodLink RX10 310 yX10_isIntroduced ∈ wAll := inA_wA_16 _ (List.mem_of_getElem? (i := 1) rfl)
theorem m_386 : Cond.instanceMethod yX10_isIntroduced ∈ wAll := inA_wA_16 _ (List.mem_of_getElem? (i := 2) rfl)
theorem m_387 : Cond.selects RX10 yX10_isIntroduced yX10_isIntroduced ∈ wAll := inA_wA_16 _ (List.mem_of_getElem? (i := 3) rfl)
theorem m_388 : Cond.methodLink RX10 286 yX10_ofHouse ∈ wAll := inA_wA_16 _ (List.mem_of_getElem? (i := 4) rfl)
theorem m_389 : Cond.instanceMethod yX10_ofHouse ∈ wAll := inA_wA_16 _ (List.mem_of_getElem? (i := 5) rfl)
theorem m_390 : Cond.selects RX10 yX10_ofHouse yX10_ofHouse ∈ wAll := inA_wA_16 _ (List.mem_of_getElem? (i := 6) rfl)
theorem m_391 : Cond.code yX10_beside cX10_beside 5 (some .int) ∈ wAll := inA_wA_16 _ (List.mem_of_getElem? (i := 7) rfl)
theorem m_392 : Cond.fieldLink RX10 83 "CardBowlModel" "saved" "[I" ∈ wAll := inA_wA_16 _ (List.mem_of_getElem? (i := 8) rfl)
theorem m_393 : Cond.methodLink RX10 364 yX10_goes ∈ wAll := inA_wA_16 _ (List.mem_of_getElem? (i := 9) rfl)
theorem m_394 : Cond.instanceMethod yX10_goes ∈ wAll := inA_wA_16 _ (List.mem_of_getElem? (i := 10) rfl)
theorem m_395 : Cond.selects RX10 yX10_goes yX10_goes ∈ wAll := inA_wA_16 _ (List.mem_of_getElem? (i := 11) rfl)
theorem m_396 : Cond.code yX10_callsAll cX10_callsAll 2 none ∈ wAll := inA_wA_16 _ (List.mem_of_getElem? (i := 12) rfl)
theorem m_397 : Cond.fieldLink RX10 80 "CardBowlModel" "calledOn" "[I" ∈ wAll := inA_wA_16 _ (List.mem_of_getElem? (i := 13) rfl)
theorem m_398 : Cond.constantLong RX10 313 (3) ∈ wAll := inA_wA_16 _ (List.mem_of_getElem? (i := 14) rfl)
theorem m_399 : Cond.code yX10_comes cX10_comes 7 none ∈ wAll := inA_wA_16 _ (List.mem_of_getElem? (i := 15) rfl)
theorem m_400 : Cond.code yX10_comesTo cX10_comesTo 5 (some .int) ∈ wAll := inA_wA_16 _ (List.mem_of_getElem? (i := 16) rfl)
theorem m_401 : Cond.code yX10_count cX10_count 4 (some .int) ∈ wAll := inA_wA_16 _ (List.mem_of_getElem? (i := 17) rfl)
theorem m_402 : Cond.methodLink RX10 325 yX10_ofDebt ∈ wAll := inA_wA_16 _ (List.mem_of_getElem? (i := 18) rfl)
theorem m_403 : Cond.instanceMethod yX10_ofDebt ∈ wAll := inA_wA_16 _ (List.mem_of_getElem? (i := 19) rfl)
theorem m_404 : Cond.selects RX10 yX10_ofDebt yX10_ofDebt ∈ wAll := inA_wA_16 _ (List.mem_of_getElem? (i := 20) rfl)
theorem m_405 : Cond.fieldLink RX10 109 "CardBowlModel" "taped" "I" ∈ wAll := inA_wA_16 _ (List.mem_of_getElem? (i := 21) rfl)
theorem m_406 : Cond.fieldLink RX10 86 "CardBowlModel" "many" "[I" ∈ wAll := inA_wA_16 _ (List.mem_of_getElem? (i := 22) rfl)
theorem m_407 : Cond.code yX10_covers cX10_covers 6 (some .int) ∈ wAll := inA_wA_16 _ (List.mem_of_getElem? (i := 23) rfl)
theorem m_408 : Cond.fieldLink RX10 438 "CardBowlModel" "tenMany" "I" ∈ wAll := inA_wA_17 _ (List.mem_of_getElem? (i := 0) rfl)
theorem m_409 : Cond.fieldLink RX10 393 "CardBowlModel" "houseMany" "I" ∈ wAll := inA_wA_17 _ (List.mem_of_getElem? (i := 1) rfl)
theorem m_410 : Cond.fieldLink RX10 40 "CardBowlModel" "houses" "[I" ∈ wAll := inA_wA_17 _ (List.mem_of_getElem? (i := 2) rfl)
theorem m_411 : Cond.fieldLink RX10 55 "CardBowlModel" "tenDebts" "[I" ∈ wAll := inA_wA_17 _ (List.mem_of_getElem? (i := 3) rfl)
theorem m_412 : Cond.code yX10_cut cX10_cut 4 (some .long) ∈ wAll := inA_wA_17 _ (List.mem_of_getElem? (i := 4) rfl)
theorem m_413 : Cond.code yX10_dayHere cX10_dayHere 1 (some .int) ∈ wAll := inA_wA_17 _ (List.mem_of_getElem? (i := 5) rfl)
theorem m_414 : Cond.methodLink RX10 162 yX10_is ∈ wAll := inA_wA_17 _ (List.mem_of_getElem? (i := 6) rfl)
theorem m_415 : Cond.instanceMethod yX10_is ∈ wAll := inA_wA_17 _ (List.mem_of_getElem? (i := 7) rfl)
theorem m_416 : Cond.selects RX10 yX10_is yX10_is ∈ wAll := inA_wA_17 _ (List.mem_of_getElem? (i := 8) rfl)
theorem m_417 : Cond.code yX10_days cX10_days 2 (some .int) ∈ wAll := inA_wA_17 _ (List.mem_of_getElem? (i := 9) rfl)
theorem m_418 : Cond.constantLong RX10 289 (60) ∈ wAll := inA_wA_17 _ (List.mem_of_getElem? (i := 10) rfl)
theorem m_419 : Cond.code yX10_debt cX10_debt 5 (some .int) ∈ wAll := inA_wA_17 _ (List.mem_of_getElem? (i := 11) rfl)
theorem m_420 : Cond.methodLink RX10 384 yX10_placeOf ∈ wAll := inA_wA_17 _ (List.mem_of_getElem? (i := 12) rfl)
theorem m_421 : Cond.instanceMethod yX10_placeOf ∈ wAll := inA_wA_17 _ (List.mem_of_getElem? (i := 13) rfl)
theorem m_422 : Cond.selects RX10 yX10_placeOf yX10_placeOf ∈ wAll := inA_wA_17 _ (List.mem_of_getElem? (i := 14) rfl)
theorem m_423 : Cond.code yX10_debts cX10_debts 2 (some .int) ∈ wAll := inA_wA_17 _ (List.mem_of_getElem? (i := 15) rfl)
theorem m_424 : Cond.methodLink RX10 339 yX10_debtsOf ∈ wAll := inA_wA_17 _ (List.mem_of_getElem? (i := 16) rfl)
theorem m_425 : Cond.instanceMethod yX10_debtsOf ∈ wAll := inA_wA_17 _ (List.mem_of_getElem? (i := 17) rfl)
theorem m_426 : Cond.selects RX10 yX10_debtsOf yX10_debtsOf ∈ wAll := inA_wA_17 _ (List.mem_of_getElem? (i := 18) rfl)
theorem m_427 : Cond.code yX10_debtsOf cX10_debtsOf 4 (some .int) ∈ wAll := inA_wA_17 _ (List.mem_of_getElem? (i := 19) rfl)
theorem m_428 : Cond.code yX10_does cX10_does 4 (some .int) ∈ wAll := inA_wA_17 _ (List.mem_of_getElem? (i := 20) rfl)
theorem m_429 : Cond.methodLink RX10 368 yX10_notes ∈ wAll := inA_wA_17 _ (List.mem_of_getElem? (i := 21) rfl)
theorem m_430 : Cond.instanceMethod yX10_notes ∈ wAll := inA_wA_17 _ (List.mem_of_getElem? (i := 22) rfl)
theorem m_431 : Cond.selects RX10 yX10_notes yX10_notes ∈ wAll := inA_wA_17 _ (List.mem_of_getElem? (i := 23) rfl)
theorem m_432 : Cond.code yX10_done cX10_done 11 (some .int) ∈ wAll := inA_wA_18 _ (List.mem_of_getElem? (i := 0) rfl)
theorem m_433 : Cond.methodLink RX10 371 yX10_isSlot ∈ wAll := inA_wA_18 _ (List.mem_of_getElem? (i := 1) rfl)
theorem m_434 : Cond.static yX10_isSlot ∈ wAll := inA_wA_18 _ (List.mem_of_getElem? (i := 2) rfl)
theorem m_435 : Cond.fieldLink RX10 92 "CardBowlModel" "numbers" "[J" ∈ wAll := inA_wA_18 _ (List.mem_of_getElem? (i := 3) rfl)
theorem m_436 : Cond.constantLong RX10 374 (16) ∈ wAll := inA_wA_18 _ (List.mem_of_getElem? (i := 4) rfl)
theorem m_437 : Cond.constantLong RX10 376 (4) ∈ wAll := inA_wA_18 _ (List.mem_of_getElem? (i := 5) rfl)
theorem m_438 : Cond.methodLink RX10 378 yX10_meet ∈ wAll := inA_wA_18 _ (List.mem_of_getElem? (i := 6) rfl)
theorem m_439 : Cond.methodLink RX10 381 yX10_does ∈ wAll := inA_wA_18 _ (List.mem_of_getElem? (i := 7) rfl)
theorem m_440 : Cond.code yX10_drop cX10_drop 5 (some .int) ∈ wAll := inA_wA_18 _ (List.mem_of_getElem? (i := 8) rfl)
theorem m_441 : Cond.methodLink RX10 390 yX10_weighs ∈ wAll := inA_wA_18 _ (List.mem_of_getElem? (i := 9) rfl)
theorem m_442 : Cond.instanceMethod yX10_weighs ∈ wAll := inA_wA_18 _ (List.mem_of_getElem? (i := 10) rfl)
theorem m_443 : Cond.selects RX10 yX10_weighs yX10_weighs ∈ wAll := inA_wA_18 _ (List.mem_of_getElem? (i := 11) rfl)
theorem m_444 : Cond.methodLink RX10 456 yX10_hangs ∈ wAll := inA_wA_18 _ (List.mem_of_getElem? (i := 12) rfl)
theorem m_445 : Cond.instanceMethod yX10_hangs ∈ wAll := inA_wA_18 _ (List.mem_of_getElem? (i := 13) rfl)
theorem m_446 : Cond.selects RX10 yX10_hangs yX10_hangs ∈ wAll := inA_wA_18 _ (List.mem_of_getElem? (i := 14) rfl)
theorem m_447 : Cond.methodLink RX10 298 yX10_ones ∈ wAll := inA_wA_18 _ (List.mem_of_getElem? (i := 15) rfl)
theorem m_448 : Cond.static yX10_ones ∈ wAll := inA_wA_18 _ (List.mem_of_getElem? (i := 16) rfl)
theorem m_449 : Cond.fieldLink RX10 43 "CardBowlModel" "worthOf" "[I" ∈ wAll := inA_wA_18 _ (List.mem_of_getElem? (i := 17) rfl)
theorem m_450 : Cond.code yX10_drops cX10_drops 3 none ∈ wAll := inA_wA_18 _ (List.mem_of_getElem? (i := 18) rfl)
theorem m_451 : Cond.code yX10_end cX10_end 2 (some .int) ∈ wAll := inA_wA_18 _ (List.mem_of_getElem? (i := 19) rfl)
theorem m_452 : Cond.code yX10_errs cX10_errs 2 none ∈ wAll := inA_wA_18 _ (List.mem_of_getElem? (i := 20) rfl)
theorem m_453 : Cond.methodLink RX10 148 yX10_good ∈ wAll := inA_wA_18 _ (List.mem_of_getElem? (i := 21) rfl)
theorem m_454 : Cond.instanceMethod yX10_good ∈ wAll := inA_wA_18 _ (List.mem_of_getElem? (i := 22) rfl)
theorem m_455 : Cond.selects RX10 yX10_good yX10_good ∈ wAll := inA_wA_18 _ (List.mem_of_getElem? (i := 23) rfl)
theorem m_456 : Cond.fieldLink RX10 145 "CardBowlModel" "faultKind" "I" ∈ wAll := inA_wA_19 _ (List.mem_of_getElem? (i := 0) rfl)
theorem m_457 : Cond.fieldLink RX10 31 "CardBowlModel" "faultPlace" "I" ∈ wAll := inA_wA_19 _ (List.mem_of_getElem? (i := 1) rfl)
theorem m_458 : Cond.code yX10_fault cX10_fault 2 (some .int) ∈ wAll := inA_wA_19 _ (List.mem_of_getElem? (i := 2) rfl)
theorem m_459 : Cond.code yX10_feed cX10_feed 7 (some .int) ∈ wAll := inA_wA_19 _ (List.mem_of_getElem? (i := 3) rfl)
theorem m_460 : Cond.fieldLink RX10 28 "CardBowlModel" "five" "[I" ∈ wAll := inA_wA_19 _ (List.mem_of_getElem? (i := 4) rfl)
theorem m_461 : Cond.fieldLink RX10 24 "CardBowlModel" "tape" "[B" ∈ wAll := inA_wA_19 _ (List.mem_of_getElem? (i := 5) rfl)
theorem m_462 : Cond.code yX10_fewest cX10_fewest 7 (some .int) ∈ wAll := inA_wA_19 _ (List.mem_of_getElem? (i := 6) rfl)
theorem m_463 : Cond.methodLink RX10 441 yX10_listsTen ∈ wAll := inA_wA_19 _ (List.mem_of_getElem? (i := 7) rfl)
theorem m_464 : Cond.instanceMethod yX10_listsTen ∈ wAll := inA_wA_19 _ (List.mem_of_getElem? (i := 8) rfl)
theorem m_465 : Cond.selects RX10 yX10_listsTen yX10_listsTen ∈ wAll := inA_wA_19 _ (List.mem_of_getElem? (i := 9) rfl)
theorem m_466 : Cond.fieldLink RX10 58 "CardBowlModel" "fewestBy" "[I" ∈ wAll := inA_wA_19 _ (List.mem_of_getElem? (i := 10) rfl)
theorem m_467 : Cond.methodLink RX10 411 yX10_goesThrough ∈ wAll := inA_wA_19 _ (List.mem_of_getElem? (i := 11) rfl)
theorem m_468 : Cond.instanceMethod yX10_goesThrough ∈ wAll := inA_wA_19 _ (List.mem_of_getElem? (i := 12) rfl)
theorem m_469 : Cond.selects RX10 yX10_goesThrough yX10_goesThrough ∈ wAll := inA_wA_19 _ (List.mem_of_getElem? (i := 13) rfl)
theorem m_470 : Cond.fieldLink RX10 61 "CardBowlModel" "covered" "[I" ∈ wAll := inA_wA_19 _ (List.mem_of_getElem? (i := 14) rfl)
theorem m_471 : Cond.methodLink RX10 424 yX10_overOf ∈ wAll := inA_wA_19 _ (List.mem_of_getElem? (i := 15) rfl)
theorem m_472 : Cond.instanceMethod yX10_overOf ∈ wAll := inA_wA_19 _ (List.mem_of_getElem? (i := 16) rfl)
theorem m_473 : Cond.selects RX10 yX10_overOf yX10_overOf ∈ wAll := inA_wA_19 _ (List.mem_of_getElem? (i := 17) rfl)
theorem m_474 : Cond.methodLink RX10 444 yX10_covers ∈ wAll := inA_wA_19 _ (List.mem_of_getElem? (i := 18) rfl)
theorem m_475 : Cond.instanceMethod yX10_covers ∈ wAll := inA_wA_19 _ (List.mem_of_getElem? (i := 19) rfl)
theorem m_476 : Cond.selects RX10 yX10_covers yX10_covers ∈ wAll := inA_wA_19 _ (List.mem_of_getElem? (i := 20) rfl)
theorem m_477 : Cond.code yX10_finds cX10_finds 7 (some .boolean) ∈ wAll := inA_wA_19 _ (List.mem_of_getElem? (i := 21) rfl)
theorem m_478 : Cond.fieldLink RX10 74 "CardBowlModel" "met" "[Z" ∈ wAll := inA_wA_19 _ (List.mem_of_getElem? (i := 22) rfl)
theorem m_479 : Cond.fieldLink RX10 65 "CardBowlModel" "queue" "[I" ∈ wAll := inA_wA_19 _ (List.mem_of_getElem? (i := 23) rfl)
theorem m_480 : Cond.fieldLink RX10 71 "CardBowlModel" "parent" "[I" ∈ wAll := inA_wA_20 _ (List.mem_of_getElem? (i := 0) rfl)
theorem m_481 : Cond.fieldLink RX10 68 "CardBowlModel" "cameBy" "[I" ∈ wAll := inA_wA_20 _ (List.mem_of_getElem? (i := 1) rfl)
theorem m_482 : Cond.methodLink RX10 447 yX10_walks ∈ wAll := inA_wA_20 _ (List.mem_of_getElem? (i := 2) rfl)
theorem m_483 : Cond.instanceMethod yX10_walks ∈ wAll := inA_wA_20 _ (List.mem_of_getElem? (i := 3) rfl)
theorem m_484 : Cond.selects RX10 yX10_walks yX10_walks ∈ wAll := inA_wA_20 _ (List.mem_of_getElem? (i := 4) rfl)
theorem m_485 : Cond.code yX10_first cX10_first 5 (some .int) ∈ wAll := inA_wA_20 _ (List.mem_of_getElem? (i := 5) rfl)
theorem m_486 : Cond.methodLink RX10 387 yX10_slightsOf ∈ wAll := inA_wA_20 _ (List.mem_of_getElem? (i := 6) rfl)
theorem m_487 : Cond.instanceMethod yX10_slightsOf ∈ wAll := inA_wA_20 _ (List.mem_of_getElem? (i := 7) rfl)
theorem m_488 : Cond.selects RX10 yX10_slightsOf yX10_slightsOf ∈ wAll := inA_wA_20 _ (List.mem_of_getElem? (i := 8) rfl)
theorem m_489 : Cond.code yX10_goes cX10_goes 8 (some .int) ∈ wAll := inA_wA_20 _ (List.mem_of_getElem? (i := 9) rfl)
theorem m_490 : Cond.methodLink RX10 345 yX10_meets ∈ wAll := inA_wA_20 _ (List.mem_of_getElem? (i := 10) rfl)
theorem m_491 : Cond.instanceMethod yX10_meets ∈ wAll := inA_wA_20 _ (List.mem_of_getElem? (i := 11) rfl)
theorem m_492 : Cond.selects RX10 yX10_meets yX10_meets ∈ wAll := inA_wA_20 _ (List.mem_of_getElem? (i := 12) rfl)
theorem m_493 : Cond.methodLink RX10 349 yX10_pays ∈ wAll := inA_wA_20 _ (List.mem_of_getElem? (i := 13) rfl)
theorem m_494 : Cond.instanceMethod yX10_pays ∈ wAll := inA_wA_20 _ (List.mem_of_getElem? (i := 14) rfl)
theorem m_495 : Cond.selects RX10 yX10_pays yX10_pays ∈ wAll := inA_wA_20 _ (List.mem_of_getElem? (i := 15) rfl)
theorem m_496 : Cond.methodLink RX10 352 yX10_lineFor ∈ wAll := inA_wA_20 _ (List.mem_of_getElem? (i := 16) rfl)
theorem m_497 : Cond.instanceMethod yX10_lineFor ∈ wAll := inA_wA_20 _ (List.mem_of_getElem? (i := 17) rfl)
theorem m_498 : Cond.selects RX10 yX10_lineFor yX10_lineFor ∈ wAll := inA_wA_20 _ (List.mem_of_getElem? (i := 18) rfl)
theorem m_499 : Cond.methodLink RX10 356 yX10_owesAlready ∈ wAll := inA_wA_20 _ (List.mem_of_getElem? (i := 19) rfl)
theorem m_500 : Cond.instanceMethod yX10_owesAlready ∈ wAll := inA_wA_20 _ (List.mem_of_getElem? (i := 20) rfl)
theorem m_501 : Cond.selects RX10 yX10_owesAlready yX10_owesAlready ∈ wAll := inA_wA_20 _ (List.mem_of_getElem? (i := 21) rfl)
theorem m_502 : Cond.methodLink RX10 360 yX10_comes ∈ wAll := inA_wA_20 _ (List.mem_of_getElem? (i := 22) rfl)
theorem m_503 : Cond.instanceMethod yX10_comes ∈ wAll := inA_wA_20 _ (List.mem_of_getElem? (i := 23) rfl)
theorem m_504 : Cond.selects RX10 yX10_comes yX10_comes ∈ wAll := inA_wA_21 _ (List.mem_of_getElem? (i := 0) rfl)
theorem m_505 : Cond.code yX10_goesThrough cX10_goesThrough 11 none ∈ wAll := inA_wA_21 _ (List.mem_of_getElem? (i := 1) rfl)
theorem m_506 : Cond.fieldLink RX10 49 "CardBowlModel" "over" "[I" ∈ wAll := inA_wA_21 _ (List.mem_of_getElem? (i := 2) rfl)
theorem m_507 : Cond.methodLink RX10 405 yX10_seen ∈ wAll := inA_wA_21 _ (List.mem_of_getElem? (i := 3) rfl)
theorem m_508 : Cond.instanceMethod yX10_seen ∈ wAll := inA_wA_21 _ (List.mem_of_getElem? (i := 4) rfl)
theorem m_509 : Cond.selects RX10 yX10_seen yX10_seen ∈ wAll := inA_wA_21 _ (List.mem_of_getElem? (i := 5) rfl)
theorem m_510 : Cond.code yX10_good cX10_good 1 (some .boolean) ∈ wAll := inA_wA_21 _ (List.mem_of_getElem? (i := 6) rfl)
theorem m_511 : Cond.code yX10_hangs cX10_hangs 8 (some .int) ∈ wAll := inA_wA_21 _ (List.mem_of_getElem? (i := 7) rfl)
theorem m_512 : Cond.code yX10_holds cX10_holds 2 (some .boolean) ∈ wAll := inA_wA_21 _ (List.mem_of_getElem? (i := 8) rfl)
theorem m_513 : Cond.code yX10_house cX10_house 5 (some .int) ∈ wAll := inA_wA_21 _ (List.mem_of_getElem? (i := 9) rfl)
theorem m_514 : Cond.constantLong RX10 468 (8) ∈ wAll := inA_wA_21 _ (List.mem_of_getElem? (i := 10) rfl)
theorem m_515 : Cond.constant RX10 470 (-2000000000) ∈ wAll := inA_wA_21 _ (List.mem_of_getElem? (i := 11) rfl)
theorem m_516 : Cond.code yX10_in cX10_in 6 (some .boolean) ∈ wAll := inA_wA_21 _ (List.mem_of_getElem? (i := 12) rfl)
theorem m_517 : Cond.code yX10_init cX10_init 1 none ∈ wAll := inA_wA_21 _ (List.mem_of_getElem? (i := 13) rfl)
theorem m_518 : Cond.methodLink RX10 7 objectInit ∈ wAll := inA_wA_21 _ (List.mem_of_getElem? (i := 14) rfl)
theorem m_519 : Cond.arrayClass .boolean ∈ wAll := inA_wA_21 _ (List.mem_of_getElem? (i := 15) rfl)
theorem m_520 : Cond.arrayClass .byte ∈ wAll := inA_wA_21 _ (List.mem_of_getElem? (i := 16) rfl)
theorem m_521 : Cond.fieldLink RX10 34 "CardBowlModel" "fresh" "[I" ∈ wAll := inA_wA_21 _ (List.mem_of_getElem? (i := 17) rfl)
theorem m_522 : Cond.fieldLink RX10 37 "CardBowlModel" "parts" "[I" ∈ wAll := inA_wA_21 _ (List.mem_of_getElem? (i := 18) rfl)
theorem m_523 : Cond.fieldLink RX10 46 "CardBowlModel" "byCall" "[Z" ∈ wAll := inA_wA_21 _ (List.mem_of_getElem? (i := 19) rfl)
theorem m_524 : Cond.fieldLink RX10 52 "CardBowlModel" "row" "[I" ∈ wAll := inA_wA_21 _ (List.mem_of_getElem? (i := 20) rfl)
theorem m_525 : Cond.constant RX10 64 (65536) ∈ wAll := inA_wA_21 _ (List.mem_of_getElem? (i := 21) rfl)
theorem m_526 : Cond.fieldLink RX10 77 "CardBowlModel" "calls" "[I" ∈ wAll := inA_wA_21 _ (List.mem_of_getElem? (i := 22) rfl)
theorem m_527 : Cond.fieldLink RX10 89 "CardBowlModel" "width" "[I" ∈ wAll := inA_wA_21 _ (List.mem_of_getElem? (i := 23) rfl)
theorem m_528 : Cond.arrayClass .long ∈ wAll := inA_wA_22 _ (List.mem_of_getElem? (i := 0) rfl)
theorem m_529 : Cond.fieldLink RX10 96 "CardBowlModel" "moving" "[J" ∈ wAll := inA_wA_22 _ (List.mem_of_getElem? (i := 1) rfl)
theorem m_530 : Cond.code yX10_is cX10_is 4 (some .boolean) ∈ wAll := inA_wA_22 _ (List.mem_of_getElem? (i := 2) rfl)
theorem m_531 : Cond.methodLink RX10 152 yJ0_length_8abf5 ∈ wAll := inA_wA_22 _ (List.mem_of_getElem? (i := 3) rfl)
theorem m_532 : Cond.instanceMethod yJ0_length_8abf5 ∈ wAll := inA_wA_22 _ (List.mem_of_getElem? (i := 4) rfl)
theorem m_533 : Cond.selects RJ0 yJ0_length_8abf5 yJ0_length_8abf5 ∈ wAll := inA_wA_22 _ (List.mem_of_getElem? (i := 5) rfl)
theorem m_534 : Cond.methodLink RX10 158 yJ0_charAt_5068e ∈ wAll := inA_wA_22 _ (List.mem_of_getElem? (i := 6) rfl)
theorem m_535 : Cond.instanceMethod yJ0_charAt_5068e ∈ wAll := inA_wA_22 _ (List.mem_of_getElem? (i := 7) rfl)
theorem m_536 : Cond.selects RJ0 yJ0_charAt_5068e yJ0_charAt_5068e ∈ wAll := inA_wA_22 _ (List.mem_of_getElem? (i := 8) rfl)
theorem m_537 : Cond.code yX10_isHouse cX10_isHouse 2 (some .boolean) ∈ wAll := inA_wA_22 _ (List.mem_of_getElem? (i := 9) rfl)
theorem m_538 : Cond.code yX10_isIntroduced cX10_isIntroduced 3 (some .boolean) ∈ wAll := inA_wA_22 _ (List.mem_of_getElem? (i := 10) rfl)
theorem m_539 : Cond.code yX10_isNew cX10_isNew 2 (some .boolean) ∈ wAll := inA_wA_22 _ (List.mem_of_getElem? (i := 11) rfl)
theorem m_540 : Cond.code yX10_isPaying cX10_isPaying 1 (some .boolean) ∈ wAll := inA_wA_22 _ (List.mem_of_getElem? (i := 12) rfl)
theorem m_541 : Cond.code yX10_isRound cX10_isRound 3 (some .boolean) ∈ wAll := inA_wA_22 _ (List.mem_of_getElem? (i := 13) rfl)
theorem m_542 : Cond.constantLong RX10 427 (399) ∈ wAll := inA_wA_22 _ (List.mem_of_getElem? (i := 14) rfl)
theorem m_543 : Cond.code yX10_isSlot cX10_isSlot 1 (some .boolean) ∈ wAll := inA_wA_22 _ (List.mem_of_getElem? (i := 15) rfl)
theorem m_544 : Cond.code yX10_isThere cX10_isThere 3 (some .boolean) ∈ wAll := inA_wA_22 _ (List.mem_of_getElem? (i := 16) rfl)
theorem m_545 : Cond.code yX10_keep cX10_keep 3 (some .int) ∈ wAll := inA_wA_22 _ (List.mem_of_getElem? (i := 17) rfl)
theorem m_546 : Cond.code yX10_known cX10_known 3 (some .int) ∈ wAll := inA_wA_22 _ (List.mem_of_getElem? (i := 18) rfl)
theorem m_547 : Cond.code yX10_lineFor cX10_lineFor 10 (some .int) ∈ wAll := inA_wA_22 _ (List.mem_of_getElem? (i := 19) rfl)
theorem m_548 : Cond.methodLink RX10 342 yX10_testHolds ∈ wAll := inA_wA_22 _ (List.mem_of_getElem? (i := 20) rfl)
theorem m_549 : Cond.instanceMethod yX10_testHolds ∈ wAll := inA_wA_22 _ (List.mem_of_getElem? (i := 21) rfl)
theorem m_550 : Cond.selects RX10 yX10_testHolds yX10_testHolds ∈ wAll := inA_wA_22 _ (List.mem_of_getElem? (i := 22) rfl)
theorem m_551 : Cond.code yX10_lists cX10_lists 3 none ∈ wAll := inA_wA_22 _ (List.mem_of_getElem? (i := 23) rfl)
theorem m_552 : Cond.code yX10_listsTen cX10_listsTen 4 none ∈ wAll := inA_wA_23 _ (List.mem_of_getElem? (i := 0) rfl)
theorem m_553 : Cond.code yX10_lost cX10_lost 6 (some .int) ∈ wAll := inA_wA_23 _ (List.mem_of_getElem? (i := 1) rfl)
theorem m_554 : Cond.code yX10_may cX10_may 11 (some .int) ∈ wAll := inA_wA_23 _ (List.mem_of_getElem? (i := 2) rfl)
theorem m_555 : Cond.methodLink RX10 429 yX10_isRound ∈ wAll := inA_wA_23 _ (List.mem_of_getElem? (i := 3) rfl)
theorem m_556 : Cond.instanceMethod yX10_isRound ∈ wAll := inA_wA_23 _ (List.mem_of_getElem? (i := 4) rfl)
theorem m_557 : Cond.selects RX10 yX10_isRound yX10_isRound ∈ wAll := inA_wA_23 _ (List.mem_of_getElem? (i := 5) rfl)
theorem m_558 : Cond.code yX10_meet cX10_meet 4 (some .int) ∈ wAll := inA_wA_23 _ (List.mem_of_getElem? (i := 6) rfl)
theorem m_559 : Cond.code yX10_meets cX10_meets 3 none ∈ wAll := inA_wA_23 _ (List.mem_of_getElem? (i := 7) rfl)
theorem m_560 : Cond.code yX10_minutes cX10_minutes 3 (some .int) ∈ wAll := inA_wA_23 _ (List.mem_of_getElem? (i := 8) rfl)
theorem m_561 : Cond.methodLink RX10 396 Lib.Math.abs.name ∈ wAll := inA_wA_23 _ (List.mem_of_getElem? (i := 9) rfl)
theorem m_562 : Cond.static Lib.Math.abs.name ∈ wAll := inA_wA_23 _ (List.mem_of_getElem? (i := 10) rfl)
theorem m_563 : Cond.code Lib.Math.abs.name Lib.Math.abs.code 1 (some .int) ∈ wAll := inA_wA_23 _ (List.mem_of_getElem? (i := 11) rfl)
theorem m_564 : Cond.code yX10_needs cX10_needs 2 none ∈ wAll := inA_wA_23 _ (List.mem_of_getElem? (i := 12) rfl)
theorem m_565 : Cond.methodLink RX10 169 yX10_takes ∈ wAll := inA_wA_23 _ (List.mem_of_getElem? (i := 13) rfl)
theorem m_566 : Cond.instanceMethod yX10_takes ∈ wAll := inA_wA_23 _ (List.mem_of_getElem? (i := 14) rfl)
theorem m_567 : Cond.selects RX10 yX10_takes yX10_takes ∈ wAll := inA_wA_23 _ (List.mem_of_getElem? (i := 15) rfl)
theorem m_568 : Cond.methodLink RX10 172 yX10_errs ∈ wAll := inA_wA_23 _ (List.mem_of_getElem? (i := 16) rfl)
theorem m_569 : Cond.instanceMethod yX10_errs ∈ wAll := inA_wA_23 _ (List.mem_of_getElem? (i := 17) rfl)
theorem m_570 : Cond.selects RX10 yX10_errs yX10_errs ∈ wAll := inA_wA_23 _ (List.mem_of_getElem? (i := 18) rfl)
theorem m_571 : Cond.code yX10_notes cX10_notes 6 (some .int) ∈ wAll := inA_wA_23 _ (List.mem_of_getElem? (i := 19) rfl)
theorem m_572 : Cond.code yX10_number cX10_number 4 (some .int) ∈ wAll := inA_wA_23 _ (List.mem_of_getElem? (i := 20) rfl)
theorem m_573 : Cond.methodLink RX10 166 yX10_advance ∈ wAll := inA_wA_23 _ (List.mem_of_getElem? (i := 21) rfl)
theorem m_574 : Cond.instanceMethod yX10_advance ∈ wAll := inA_wA_23 _ (List.mem_of_getElem? (i := 22) rfl)
theorem m_575 : Cond.selects RX10 yX10_advance yX10_advance ∈ wAll := inA_wA_23 _ (List.mem_of_getElem? (i := 23) rfl)
theorem m_576 : Cond.code yX10_ofDebt cX10_ofDebt 3 (some .int) ∈ wAll := inA_wA_24 _ (List.mem_of_getElem? (i := 0) rfl)
theorem m_577 : Cond.code yX10_ofHouse cX10_ofHouse 3 (some .int) ∈ wAll := inA_wA_24 _ (List.mem_of_getElem? (i := 1) rfl)
theorem m_578 : Cond.code yX10_ones cX10_ones 3 (some .int) ∈ wAll := inA_wA_24 _ (List.mem_of_getElem? (i := 2) rfl)
theorem m_579 : Cond.code yX10_over cX10_over 3 (some .int) ∈ wAll := inA_wA_24 _ (List.mem_of_getElem? (i := 3) rfl)
theorem m_580 : Cond.methodLink RX10 432 yX10_rounds ∈ wAll := inA_wA_24 _ (List.mem_of_getElem? (i := 4) rfl)
theorem m_581 : Cond.instanceMethod yX10_rounds ∈ wAll := inA_wA_24 _ (List.mem_of_getElem? (i := 5) rfl)
theorem m_582 : Cond.selects RX10 yX10_rounds yX10_rounds ∈ wAll := inA_wA_24 _ (List.mem_of_getElem? (i := 6) rfl)
theorem m_583 : Cond.fieldLink RX10 418 "CardBowlModel" "bestOver" "I" ∈ wAll := inA_wA_24 _ (List.mem_of_getElem? (i := 7) rfl)
theorem m_584 : Cond.code yX10_overOf cX10_overOf 5 (some .int) ∈ wAll := inA_wA_24 _ (List.mem_of_getElem? (i := 8) rfl)
theorem m_585 : Cond.code yX10_owes cX10_owes 6 (some .int) ∈ wAll := inA_wA_24 _ (List.mem_of_getElem? (i := 9) rfl)
theorem m_586 : Cond.code yX10_owesAlready cX10_owesAlready 5 (some .boolean) ∈ wAll := inA_wA_24 _ (List.mem_of_getElem? (i := 10) rfl)
theorem m_587 : Cond.code yX10_partOf cX10_partOf 3 (some .long) ∈ wAll := inA_wA_24 _ (List.mem_of_getElem? (i := 11) rfl)
theorem m_588 : Cond.code yX10_paste cX10_paste 7 (some .int) ∈ wAll := inA_wA_24 _ (List.mem_of_getElem? (i := 12) rfl)
theorem m_589 : Cond.code yX10_path cX10_path 4 (some .int) ∈ wAll := inA_wA_24 _ (List.mem_of_getElem? (i := 13) rfl)
theorem m_590 : Cond.methodLink RX10 453 yX10_finds ∈ wAll := inA_wA_24 _ (List.mem_of_getElem? (i := 14) rfl)
theorem m_591 : Cond.instanceMethod yX10_finds ∈ wAll := inA_wA_24 _ (List.mem_of_getElem? (i := 15) rfl)
theorem m_592 : Cond.selects RX10 yX10_finds yX10_finds ∈ wAll := inA_wA_24 _ (List.mem_of_getElem? (i := 16) rfl)
theorem m_593 : Cond.fieldLink RX10 450 "CardBowlModel" "callMany" "I" ∈ wAll := inA_wA_24 _ (List.mem_of_getElem? (i := 17) rfl)
theorem m_594 : Cond.code yX10_payingHere cX10_payingHere 1 (some .int) ∈ wAll := inA_wA_24 _ (List.mem_of_getElem? (i := 18) rfl)
theorem m_595 : Cond.code yX10_pays cX10_pays 6 (some .int) ∈ wAll := inA_wA_24 _ (List.mem_of_getElem? (i := 19) rfl)
theorem m_596 : Cond.methodLink RX10 328 yX10_drops ∈ wAll := inA_wA_24 _ (List.mem_of_getElem? (i := 20) rfl)
theorem m_597 : Cond.instanceMethod yX10_drops ∈ wAll := inA_wA_24 _ (List.mem_of_getElem? (i := 21) rfl)
theorem m_598 : Cond.selects RX10 yX10_drops yX10_drops ∈ wAll := inA_wA_24 _ (List.mem_of_getElem? (i := 22) rfl)
theorem m_599 : Cond.code yX10_placeOf cX10_placeOf 5 (some .int) ∈ wAll := inA_wA_24 _ (List.mem_of_getElem? (i := 23) rfl)
theorem m_600 : Cond.code yX10_reach cX10_reach 2 (some .int) ∈ wAll := inA_wA_25 _ (List.mem_of_getElem? (i := 0) rfl)
theorem m_601 : Cond.code yX10_readHouse cX10_readHouse 2 none ∈ wAll := inA_wA_25 _ (List.mem_of_getElem? (i := 1) rfl)
theorem m_602 : Cond.methodLink RX10 206 yX10_told ∈ wAll := inA_wA_25 _ (List.mem_of_getElem? (i := 2) rfl)
theorem m_603 : Cond.instanceMethod yX10_told ∈ wAll := inA_wA_25 _ (List.mem_of_getElem? (i := 3) rfl)
theorem m_604 : Cond.selects RX10 yX10_told yX10_told ∈ wAll := inA_wA_25 _ (List.mem_of_getElem? (i := 4) rfl)
theorem m_605 : Cond.methodLink RX10 180 yX10_number ∈ wAll := inA_wA_25 _ (List.mem_of_getElem? (i := 5) rfl)
theorem m_606 : Cond.instanceMethod yX10_number ∈ wAll := inA_wA_25 _ (List.mem_of_getElem? (i := 6) rfl)
theorem m_607 : Cond.selects RX10 yX10_number yX10_number ∈ wAll := inA_wA_25 _ (List.mem_of_getElem? (i := 7) rfl)
theorem m_608 : Cond.methodLink RX10 176 yX10_needs ∈ wAll := inA_wA_25 _ (List.mem_of_getElem? (i := 8) rfl)
theorem m_609 : Cond.instanceMethod yX10_needs ∈ wAll := inA_wA_25 _ (List.mem_of_getElem? (i := 9) rfl)
theorem m_610 : Cond.selects RX10 yX10_needs yX10_needs ∈ wAll := inA_wA_25 _ (List.mem_of_getElem? (i := 10) rfl)
theorem m_611 : Cond.methodLink RX10 214 yX10_dayHere ∈ wAll := inA_wA_25 _ (List.mem_of_getElem? (i := 11) rfl)
theorem m_612 : Cond.instanceMethod yX10_dayHere ∈ wAll := inA_wA_25 _ (List.mem_of_getElem? (i := 12) rfl)
theorem m_613 : Cond.selects RX10 yX10_dayHere yX10_dayHere ∈ wAll := inA_wA_25 _ (List.mem_of_getElem? (i := 13) rfl)
theorem m_614 : Cond.methodLink RX10 217 yX10_taken ∈ wAll := inA_wA_25 _ (List.mem_of_getElem? (i := 14) rfl)
theorem m_615 : Cond.instanceMethod yX10_taken ∈ wAll := inA_wA_25 _ (List.mem_of_getElem? (i := 15) rfl)
theorem m_616 : Cond.selects RX10 yX10_taken yX10_taken ∈ wAll := inA_wA_25 _ (List.mem_of_getElem? (i := 16) rfl)
theorem m_617 : Cond.code yX10_readKnow cX10_readKnow 3 none ∈ wAll := inA_wA_25 _ (List.mem_of_getElem? (i := 17) rfl)
theorem m_618 : Cond.code yX10_readLine cX10_readLine 3 none ∈ wAll := inA_wA_25 _ (List.mem_of_getElem? (i := 18) rfl)
theorem m_619 : Cond.methodLink RX10 252 yX10_payingHere ∈ wAll := inA_wA_25 _ (List.mem_of_getElem? (i := 19) rfl)
theorem m_620 : Cond.instanceMethod yX10_payingHere ∈ wAll := inA_wA_25 _ (List.mem_of_getElem? (i := 20) rfl)
theorem m_621 : Cond.selects RX10 yX10_payingHere yX10_payingHere ∈ wAll := inA_wA_25 _ (List.mem_of_getElem? (i := 21) rfl)
theorem m_622 : Cond.methodLink RX10 274 yX10_readOwes ∈ wAll := inA_wA_25 _ (List.mem_of_getElem? (i := 22) rfl)
theorem m_623 : Cond.instanceMethod yX10_readOwes ∈ wAll := inA_wA_25 _ (List.mem_of_getElem? (i := 23) rfl)
theorem m_624 : Cond.selects RX10 yX10_readOwes yX10_readOwes ∈ wAll := inA_wA_26 _ (List.mem_of_getElem? (i := 0) rfl)
theorem m_625 : Cond.methodLink RX10 277 yX10_readHouse ∈ wAll := inA_wA_26 _ (List.mem_of_getElem? (i := 1) rfl)
theorem m_626 : Cond.instanceMethod yX10_readHouse ∈ wAll := inA_wA_26 _ (List.mem_of_getElem? (i := 2) rfl)
theorem m_627 : Cond.selects RX10 yX10_readHouse yX10_readHouse ∈ wAll := inA_wA_26 _ (List.mem_of_getElem? (i := 3) rfl)
theorem m_628 : Cond.methodLink RX10 280 yX10_readKnow ∈ wAll := inA_wA_26 _ (List.mem_of_getElem? (i := 4) rfl)
theorem m_629 : Cond.instanceMethod yX10_readKnow ∈ wAll := inA_wA_26 _ (List.mem_of_getElem? (i := 5) rfl)
theorem m_630 : Cond.selects RX10 yX10_readKnow yX10_readKnow ∈ wAll := inA_wA_26 _ (List.mem_of_getElem? (i := 6) rfl)
theorem m_631 : Cond.code yX10_readOwes cX10_readOwes 2 none ∈ wAll := inA_wA_26 _ (List.mem_of_getElem? (i := 7) rfl)
theorem m_632 : Cond.methodLink RX10 261 yX10_readTest ∈ wAll := inA_wA_26 _ (List.mem_of_getElem? (i := 8) rfl)
theorem m_633 : Cond.instanceMethod yX10_readTest ∈ wAll := inA_wA_26 _ (List.mem_of_getElem? (i := 9) rfl)
theorem m_634 : Cond.selects RX10 yX10_readTest yX10_readTest ∈ wAll := inA_wA_26 _ (List.mem_of_getElem? (i := 10) rfl)
theorem m_635 : Cond.code yX10_readPart cX10_readPart 5 none ∈ wAll := inA_wA_26 _ (List.mem_of_getElem? (i := 11) rfl)
theorem m_636 : Cond.code yX10_readSum cX10_readSum 3 none ∈ wAll := inA_wA_26 _ (List.mem_of_getElem? (i := 12) rfl)
theorem m_637 : Cond.methodLink RX10 234 yX10_readPart ∈ wAll := inA_wA_26 _ (List.mem_of_getElem? (i := 13) rfl)
theorem m_638 : Cond.instanceMethod yX10_readPart ∈ wAll := inA_wA_26 _ (List.mem_of_getElem? (i := 14) rfl)
theorem m_639 : Cond.selects RX10 yX10_readPart yX10_readPart ∈ wAll := inA_wA_26 _ (List.mem_of_getElem? (i := 15) rfl)
theorem m_640 : Cond.code yX10_readTest cX10_readTest 4 none ∈ wAll := inA_wA_26 _ (List.mem_of_getElem? (i := 16) rfl)
theorem m_641 : Cond.methodLink RX10 243 yX10_readSum ∈ wAll := inA_wA_26 _ (List.mem_of_getElem? (i := 17) rfl)
theorem m_642 : Cond.instanceMethod yX10_readSum ∈ wAll := inA_wA_26 _ (List.mem_of_getElem? (i := 18) rfl)
theorem m_643 : Cond.selects RX10 yX10_readSum yX10_readSum ∈ wAll := inA_wA_26 _ (List.mem_of_getElem? (i := 19) rfl)
theorem m_644 : Cond.code yX10_ring cX10_ring 2 (some .int) ∈ wAll := inA_wA_26 _ (List.mem_of_getElem? (i := 20) rfl)
theorem m_645 : Cond.methodLink RX10 462 yX10_callsAll ∈ wAll := inA_wA_26 _ (List.mem_of_getElem? (i := 21) rfl)
theorem m_646 : Cond.instanceMethod yX10_callsAll ∈ wAll := inA_wA_26 _ (List.mem_of_getElem? (i := 22) rfl)
theorem m_647 : Cond.selects RX10 yX10_callsAll yX10_callsAll ∈ wAll := inA_wA_26 _ (List.mem_of_getElem? (i := 23) rfl)
theorem m_648 : Cond.methodLink RX10 465 yX10_ringOf ∈ wAll := inA_wA_27 _ (List.mem_of_getElem? (i := 0) rfl)
theorem m_649 : Cond.instanceMethod yX10_ringOf ∈ wAll := inA_wA_27 _ (List.mem_of_getElem? (i := 1) rfl)
theorem m_650 : Cond.selects RX10 yX10_ringOf yX10_ringOf ∈ wAll := inA_wA_27 _ (List.mem_of_getElem? (i := 2) rfl)
theorem m_651 : Cond.code yX10_ringOf cX10_ringOf 4 (some .int) ∈ wAll := inA_wA_27 _ (List.mem_of_getElem? (i := 3) rfl)
theorem m_652 : Cond.methodLink RX10 459 yX10_comesTo ∈ wAll := inA_wA_27 _ (List.mem_of_getElem? (i := 4) rfl)
theorem m_653 : Cond.instanceMethod yX10_comesTo ∈ wAll := inA_wA_27 _ (List.mem_of_getElem? (i := 5) rfl)
theorem m_654 : Cond.selects RX10 yX10_comesTo yX10_comesTo ∈ wAll := inA_wA_27 _ (List.mem_of_getElem? (i := 6) rfl)
theorem m_655 : Cond.code yX10_rings cX10_rings 4 (some .int) ∈ wAll := inA_wA_27 _ (List.mem_of_getElem? (i := 7) rfl)
theorem m_656 : Cond.code yX10_round cX10_round 5 (some .int) ∈ wAll := inA_wA_27 _ (List.mem_of_getElem? (i := 8) rfl)
theorem m_657 : Cond.fieldLink RX10 415 "CardBowlModel" "bestSet" "I" ∈ wAll := inA_wA_27 _ (List.mem_of_getElem? (i := 9) rfl)
theorem m_658 : Cond.methodLink RX10 435 yX10_rowOf ∈ wAll := inA_wA_27 _ (List.mem_of_getElem? (i := 10) rfl)
theorem m_659 : Cond.instanceMethod yX10_rowOf ∈ wAll := inA_wA_27 _ (List.mem_of_getElem? (i := 11) rfl)
theorem m_660 : Cond.selects RX10 yX10_rowOf yX10_rowOf ∈ wAll := inA_wA_27 _ (List.mem_of_getElem? (i := 12) rfl)
theorem m_661 : Cond.code yX10_rounds cX10_rounds 7 none ∈ wAll := inA_wA_27 _ (List.mem_of_getElem? (i := 13) rfl)
theorem m_662 : Cond.methodLink RX10 408 yX10_lists ∈ wAll := inA_wA_27 _ (List.mem_of_getElem? (i := 14) rfl)
theorem m_663 : Cond.instanceMethod yX10_lists ∈ wAll := inA_wA_27 _ (List.mem_of_getElem? (i := 15) rfl)
theorem m_664 : Cond.selects RX10 yX10_lists yX10_lists ∈ wAll := inA_wA_27 _ (List.mem_of_getElem? (i := 16) rfl)
theorem m_665 : Cond.fieldLink RX10 421 "CardBowlModel" "bestWorth" "I" ∈ wAll := inA_wA_27 _ (List.mem_of_getElem? (i := 17) rfl)
theorem m_666 : Cond.code yX10_row cX10_row 5 (some .int) ∈ wAll := inA_wA_27 _ (List.mem_of_getElem? (i := 18) rfl)
theorem m_667 : Cond.code yX10_rowOf cX10_rowOf 12 none ∈ wAll := inA_wA_27 _ (List.mem_of_getElem? (i := 19) rfl)
theorem m_668 : Cond.code yX10_see cX10_see 2 (some .int) ∈ wAll := inA_wA_27 _ (List.mem_of_getElem? (i := 20) rfl)
theorem m_669 : Cond.fieldLink RX10 112 "CardBowlModel" "size" "I" ∈ wAll := inA_wA_27 _ (List.mem_of_getElem? (i := 21) rfl)
theorem m_670 : Cond.code yX10_seen cX10_seen 6 (some .int) ∈ wAll := inA_wA_27 _ (List.mem_of_getElem? (i := 22) rfl)
theorem m_671 : Cond.methodLink RX10 399 yX10_minutes ∈ wAll := inA_wA_27 _ (List.mem_of_getElem? (i := 23) rfl)
theorem m_672 : Cond.instanceMethod yX10_minutes ∈ wAll := inA_wA_28 _ (List.mem_of_getElem? (i := 0) rfl)
theorem m_673 : Cond.selects RX10 yX10_minutes yX10_minutes ∈ wAll := inA_wA_28 _ (List.mem_of_getElem? (i := 1) rfl)
theorem m_674 : Cond.methodLink RX10 402 Lib.Math.max.name ∈ wAll := inA_wA_28 _ (List.mem_of_getElem? (i := 2) rfl)
theorem m_675 : Cond.static Lib.Math.max.name ∈ wAll := inA_wA_28 _ (List.mem_of_getElem? (i := 3) rfl)
theorem m_676 : Cond.code Lib.Math.max.name Lib.Math.max.code 2 (some .int) ∈ wAll := inA_wA_28 _ (List.mem_of_getElem? (i := 4) rfl)
theorem m_677 : Cond.code yX10_slights cX10_slights 2 (some .int) ∈ wAll := inA_wA_28 _ (List.mem_of_getElem? (i := 5) rfl)
theorem m_678 : Cond.code yX10_slightsOf cX10_slightsOf 4 (some .int) ∈ wAll := inA_wA_28 _ (List.mem_of_getElem? (i := 6) rfl)
theorem m_679 : Cond.code yX10_soon cX10_soon 3 (some .int) ∈ wAll := inA_wA_28 _ (List.mem_of_getElem? (i := 7) rfl)
theorem m_680 : Cond.code yX10_taken cX10_taken 2 (some .int) ∈ wAll := inA_wA_28 _ (List.mem_of_getElem? (i := 8) rfl)
theorem m_681 : Cond.code yX10_takes cX10_takes 3 (some .boolean) ∈ wAll := inA_wA_28 _ (List.mem_of_getElem? (i := 9) rfl)
theorem m_682 : Cond.code yX10_testHolds cX10_testHolds 11 (some .boolean) ∈ wAll := inA_wA_28 _ (List.mem_of_getElem? (i := 10) rfl)
theorem m_683 : Cond.methodLink RX10 331 yX10_partOf ∈ wAll := inA_wA_28 _ (List.mem_of_getElem? (i := 11) rfl)
theorem m_684 : Cond.instanceMethod yX10_partOf ∈ wAll := inA_wA_28 _ (List.mem_of_getElem? (i := 12) rfl)
theorem m_685 : Cond.selects RX10 yX10_partOf yX10_partOf ∈ wAll := inA_wA_28 _ (List.mem_of_getElem? (i := 13) rfl)
theorem m_686 : Cond.constantLong RX10 335 (-1000000000) ∈ wAll := inA_wA_28 _ (List.mem_of_getElem? (i := 14) rfl)
theorem m_687 : Cond.constantLong RX10 337 (1000000000) ∈ wAll := inA_wA_28 _ (List.mem_of_getElem? (i := 15) rfl)
theorem m_688 : Cond.code yX10_tie cX10_tie 3 (some .int) ∈ wAll := inA_wA_28 _ (List.mem_of_getElem? (i := 16) rfl)
theorem m_689 : Cond.code yX10_today cX10_today 1 (some .int) ∈ wAll := inA_wA_28 _ (List.mem_of_getElem? (i := 17) rfl)
theorem m_690 : Cond.code yX10_told cX10_told 4 (some .int) ∈ wAll := inA_wA_28 _ (List.mem_of_getElem? (i := 18) rfl)
theorem m_691 : Cond.code yX10_town cX10_town 2 (some .int) ∈ wAll := inA_wA_28 _ (List.mem_of_getElem? (i := 19) rfl)
theorem m_692 : Cond.methodLink RX10 283 yX10_readLine ∈ wAll := inA_wA_28 _ (List.mem_of_getElem? (i := 20) rfl)
theorem m_693 : Cond.instanceMethod yX10_readLine ∈ wAll := inA_wA_28 _ (List.mem_of_getElem? (i := 21) rfl)
theorem m_694 : Cond.selects RX10 yX10_readLine yX10_readLine ∈ wAll := inA_wA_28 _ (List.mem_of_getElem? (i := 22) rfl)
theorem m_695 : Cond.code yX10_walks cX10_walks 4 none ∈ wAll := inA_wA_28 _ (List.mem_of_getElem? (i := 23) rfl)
theorem m_696 : Cond.code yX10_weighs cX10_weighs 4 none ∈ wAll := inA_wA_29 _ (List.mem_of_getElem? (i := 0) rfl)
theorem m_697 : Cond.code yX10_worth cX10_worth 3 (some .int) ∈ wAll := inA_wA_29 _ (List.mem_of_getElem? (i := 1) rfl)
theorem m_698 : Cond.code yX10_write cX10_write 5 (some .int) ∈ wAll := inA_wA_29 _ (List.mem_of_getElem? (i := 2) rfl)
theorem m_699 : Cond.methodLink RX10 471 yX10_cut ∈ wAll := inA_wA_29 _ (List.mem_of_getElem? (i := 3) rfl)
theorem m_700 : Cond.static yX10_cut ∈ wAll := inA_wA_29 _ (List.mem_of_getElem? (i := 4) rfl)
theorem m_701 : Cond.code yX2_add cX2_add 5 none ∈ wAll := inA_wA_29 _ (List.mem_of_getElem? (i := 5) rfl)
theorem m_702 : Cond.fieldLink RX2 24 "CardBowl$Deeds" "size" "I" ∈ wAll := inA_wA_29 _ (List.mem_of_getElem? (i := 6) rfl)
theorem m_703 : Cond.fieldLink RX2 9 "CardBowl$Deeds" "who" "[I" ∈ wAll := inA_wA_29 _ (List.mem_of_getElem? (i := 7) rfl)
theorem m_704 : Cond.fieldLink RX2 15 "CardBowl$Deeds" "whom" "[I" ∈ wAll := inA_wA_29 _ (List.mem_of_getElem? (i := 8) rfl)
theorem m_705 : Cond.fieldLink RX2 18 "CardBowl$Deeds" "what" "[I" ∈ wAll := inA_wA_29 _ (List.mem_of_getElem? (i := 9) rfl)
theorem m_706 : Cond.fieldLink RX2 21 "CardBowl$Deeds" "day" "[I" ∈ wAll := inA_wA_29 _ (List.mem_of_getElem? (i := 10) rfl)
theorem m_707 : Cond.code yX2_callsBy cX2_callsBy 4 (some .int) ∈ wAll := inA_wA_29 _ (List.mem_of_getElem? (i := 11) rfl)
theorem m_708 : Cond.code yX2_callsTo cX2_callsTo 4 (some .int) ∈ wAll := inA_wA_29 _ (List.mem_of_getElem? (i := 12) rfl)
theorem m_709 : Cond.code yX2_copy cX2_copy 2 none ∈ wAll := inA_wA_29 _ (List.mem_of_getElem? (i := 13) rfl)
theorem m_710 : Cond.methodLink RX2 28 arraycopyName ∈ wAll := inA_wA_29 _ (List.mem_of_getElem? (i := 14) rfl)
theorem m_711 : Cond.code yX2_init cX2_init 1 none ∈ wAll := inA_wA_29 _ (List.mem_of_getElem? (i := 15) rfl)
theorem m_712 : Cond.methodLink RX2 3 objectInit ∈ wAll := inA_wA_29 _ (List.mem_of_getElem? (i := 16) rfl)
theorem m_713 : Cond.code yX2_isFull cX2_isFull 1 (some .boolean) ∈ wAll := inA_wA_29 _ (List.mem_of_getElem? (i := 17) rfl)
theorem m_714 : Cond.code yX3_advance cX3_advance 1 none ∈ wAll := inA_wA_29 _ (List.mem_of_getElem? (i := 18) rfl)
theorem m_715 : Cond.fieldLink RX3 42 "CardBowl$Reader" "next" "I" ∈ wAll := inA_wA_29 _ (List.mem_of_getElem? (i := 19) rfl)
theorem m_716 : Cond.fieldLink RX3 39 "CardBowl$Reader" "size" "I" ∈ wAll := inA_wA_29 _ (List.mem_of_getElem? (i := 20) rfl)
theorem m_717 : Cond.fieldLink RX3 29 "CardBowl$Reader" "text" "[B" ∈ wAll := inA_wA_29 _ (List.mem_of_getElem? (i := 21) rfl)
theorem m_718 : Cond.fieldLink RX3 179 "CardBowl$Reader" "begin" "I" ∈ wAll := inA_wA_29 _ (List.mem_of_getElem? (i := 22) rfl)
theorem m_719 : Cond.fieldLink RX3 55 "CardBowl$Reader" "kind" "I" ∈ wAll := inA_wA_29 _ (List.mem_of_getElem? (i := 23) rfl)
theorem m_720 : Cond.methodLink RX3 182 yX3_takeWord ∈ wAll := inA_wA_30 _ (List.mem_of_getElem? (i := 0) rfl)
theorem m_721 : Cond.initialized RX3 ∈ wAll := inA_wA_30 _ (List.mem_of_getElem? (i := 1) rfl)
theorem m_722 : Cond.instanceMethod yX3_takeWord ∈ wAll := inA_wA_30 _ (List.mem_of_getElem? (i := 2) rfl)
theorem m_723 : Cond.selects RX3 yX3_takeWord yX3_takeWord ∈ wAll := inA_wA_30 _ (List.mem_of_getElem? (i := 3) rfl)
theorem m_724 : Cond.methodLink RX3 185 yX3_takeNumber ∈ wAll := inA_wA_30 _ (List.mem_of_getElem? (i := 4) rfl)
theorem m_725 : Cond.instanceMethod yX3_takeNumber ∈ wAll := inA_wA_30 _ (List.mem_of_getElem? (i := 5) rfl)
theorem m_726 : Cond.selects RX3 yX3_takeNumber yX3_takeNumber ∈ wAll := inA_wA_30 _ (List.mem_of_getElem? (i := 6) rfl)
theorem m_727 : Cond.code yX3_among cX3_among 7 (some .int) ∈ wAll := inA_wA_30 _ (List.mem_of_getElem? (i := 7) rfl)
theorem m_728 : Cond.methodLink RX3 189 yJ0_length_8abf5 ∈ wAll := inA_wA_30 _ (List.mem_of_getElem? (i := 8) rfl)
theorem m_729 : Cond.methodLink RX3 195 yJ0_charAt_5068e ∈ wAll := inA_wA_30 _ (List.mem_of_getElem? (i := 9) rfl)
theorem m_730 : Cond.code yX3_choice cX3_choice 3 (some .int) ∈ wAll := inA_wA_30 _ (List.mem_of_getElem? (i := 10) rfl)
theorem m_731 : Cond.methodLink RX3 60 yX3_among ∈ wAll := inA_wA_30 _ (List.mem_of_getElem? (i := 11) rfl)
theorem m_732 : Cond.instanceMethod yX3_among ∈ wAll := inA_wA_30 _ (List.mem_of_getElem? (i := 12) rfl)
theorem m_733 : Cond.selects RX3 yX3_among yX3_among ∈ wAll := inA_wA_30 _ (List.mem_of_getElem? (i := 13) rfl)
theorem m_734 : Cond.methodLink RX3 89 yX3_refuse ∈ wAll := inA_wA_30 _ (List.mem_of_getElem? (i := 14) rfl)
theorem m_735 : Cond.instanceMethod yX3_refuse ∈ wAll := inA_wA_30 _ (List.mem_of_getElem? (i := 15) rfl)
theorem m_736 : Cond.selects RX3 yX3_refuse yX3_refuse ∈ wAll := inA_wA_30 _ (List.mem_of_getElem? (i := 16) rfl)
theorem m_737 : Cond.fieldLink RX3 45 "CardBowl$Reader" "fault" "I" ∈ wAll := inA_wA_30 _ (List.mem_of_getElem? (i := 17) rfl)
theorem m_738 : Cond.methodLink RX3 52 yX3_advance ∈ wAll := inA_wA_30 _ (List.mem_of_getElem? (i := 18) rfl)
theorem m_739 : Cond.instanceMethod yX3_advance ∈ wAll := inA_wA_30 _ (List.mem_of_getElem? (i := 19) rfl)
theorem m_740 : Cond.selects RX3 yX3_advance yX3_advance ∈ wAll := inA_wA_30 _ (List.mem_of_getElem? (i := 20) rfl)
theorem m_741 : Cond.code yX3_closeLine cX3_closeLine 1 none ∈ wAll := inA_wA_30 _ (List.mem_of_getElem? (i := 21) rfl)
theorem m_742 : Cond.code yX3_init cX3_init 1 none ∈ wAll := inA_wA_30 _ (List.mem_of_getElem? (i := 22) rfl)
theorem m_743 : Cond.methodLink RX3 3 objectInit ∈ wAll := inA_wA_30 _ (List.mem_of_getElem? (i := 23) rfl)
theorem m_744 : Cond.classLink RX3 9 RX7 ∈ wAll := inA_wA_31 _ (List.mem_of_getElem? (i := 0) rfl)
theorem m_745 : Cond.instantiable RX7 12 ∈ wAll := inA_wA_31 _ (List.mem_of_getElem? (i := 1) rfl)
theorem m_746 : Cond.initialized RX7 ∈ wAll := inA_wA_31 _ (List.mem_of_getElem? (i := 2) rfl)
theorem m_747 : Cond.fieldLink RX3 12 "CardBowl$Reader" "town" "LCardBowl$Town;" ∈ wAll := inA_wA_31 _ (List.mem_of_getElem? (i := 3) rfl)
theorem m_748 : Cond.classLink RX3 18 RX0 ∈ wAll := inA_wA_31 _ (List.mem_of_getElem? (i := 4) rfl)
theorem m_749 : Cond.instantiable RX0 10 ∈ wAll := inA_wA_31 _ (List.mem_of_getElem? (i := 5) rfl)
theorem m_750 : Cond.fieldLink RX3 21 "CardBowl$Reader" "code" "LCardBowl$Code;" ∈ wAll := inA_wA_31 _ (List.mem_of_getElem? (i := 6) rfl)
theorem m_751 : Cond.fieldLink RX3 25 "CardBowl$Reader" "place" "I" ∈ wAll := inA_wA_31 _ (List.mem_of_getElem? (i := 7) rfl)
theorem m_752 : Cond.code yX3_number cX3_number 4 (some .int) ∈ wAll := inA_wA_31 _ (List.mem_of_getElem? (i := 8) rfl)
theorem m_753 : Cond.fieldLink RX3 136 "CardBowl$Reader" "value" "I" ∈ wAll := inA_wA_31 _ (List.mem_of_getElem? (i := 9) rfl)
theorem m_754 : Cond.code yX3_read cX3_read 5 none ∈ wAll := inA_wA_31 _ (List.mem_of_getElem? (i := 10) rfl)
theorem m_755 : Cond.methodLink RX3 33 Lib.Math.min.name ∈ wAll := inA_wA_31 _ (List.mem_of_getElem? (i := 11) rfl)
theorem m_756 : Cond.methodLink RX3 48 yX7_clear ∈ wAll := inA_wA_31 _ (List.mem_of_getElem? (i := 12) rfl)
theorem m_757 : Cond.instanceMethod yX7_clear ∈ wAll := inA_wA_31 _ (List.mem_of_getElem? (i := 13) rfl)
theorem m_758 : Cond.selects RX7 yX7_clear yX7_clear ∈ wAll := inA_wA_31 _ (List.mem_of_getElem? (i := 14) rfl)
theorem m_759 : Cond.methodLink RX3 51 yX0_clear ∈ wAll := inA_wA_31 _ (List.mem_of_getElem? (i := 15) rfl)
theorem m_760 : Cond.instanceMethod yX0_clear ∈ wAll := inA_wA_31 _ (List.mem_of_getElem? (i := 16) rfl)
theorem m_761 : Cond.selects RX0 yX0_clear yX0_clear ∈ wAll := inA_wA_31 _ (List.mem_of_getElem? (i := 17) rfl)
theorem m_762 : Cond.methodLink RX3 64 yX3_readOwes ∈ wAll := inA_wA_31 _ (List.mem_of_getElem? (i := 18) rfl)
theorem m_763 : Cond.instanceMethod yX3_readOwes ∈ wAll := inA_wA_31 _ (List.mem_of_getElem? (i := 19) rfl)
theorem m_764 : Cond.selects RX3 yX3_readOwes yX3_readOwes ∈ wAll := inA_wA_31 _ (List.mem_of_getElem? (i := 20) rfl)
theorem m_765 : Cond.methodLink RX3 68 yX3_readOther ∈ wAll := inA_wA_31 _ (List.mem_of_getElem? (i := 21) rfl)
theorem m_766 : Cond.instanceMethod yX3_readOther ∈ wAll := inA_wA_31 _ (List.mem_of_getElem? (i := 22) rfl)
theorem m_767 : Cond.selects RX3 yX3_readOther yX3_readOther ∈ wAll := inA_wA_31 _ (List.mem_of_getElem? (i := 23) rfl)
theorem m_768 : Cond.methodLink RX3 71 yX3_closeLine ∈ wAll := inA_wA_32 _ (List.mem_of_getElem? (i := 0) rfl)
theorem m_769 : Cond.instanceMethod yX3_closeLine ∈ wAll := inA_wA_32 _ (List.mem_of_getElem? (i := 1) rfl)
theorem m_770 : Cond.selects RX3 yX3_closeLine yX3_closeLine ∈ wAll := inA_wA_32 _ (List.mem_of_getElem? (i := 2) rfl)
theorem m_771 : Cond.code yX3_readHouse cX3_readHouse 2 none ∈ wAll := inA_wA_32 _ (List.mem_of_getElem? (i := 3) rfl)
theorem m_772 : Cond.fieldLink RX3 92 "CardBowl$Town" "houses" "I" ∈ wAll := inA_wA_32 _ (List.mem_of_getElem? (i := 4) rfl)
theorem m_773 : Cond.methodLink RX3 97 yX3_choice ∈ wAll := inA_wA_32 _ (List.mem_of_getElem? (i := 5) rfl)
theorem m_774 : Cond.instanceMethod yX3_choice ∈ wAll := inA_wA_32 _ (List.mem_of_getElem? (i := 6) rfl)
theorem m_775 : Cond.selects RX3 yX3_choice yX3_choice ∈ wAll := inA_wA_32 _ (List.mem_of_getElem? (i := 7) rfl)
theorem m_776 : Cond.fieldLink RX3 100 "CardBowl$Town" "x" "[I" ∈ wAll := inA_wA_32 _ (List.mem_of_getElem? (i := 8) rfl)
theorem m_777 : Cond.methodLink RX3 80 yX3_number ∈ wAll := inA_wA_32 _ (List.mem_of_getElem? (i := 9) rfl)
theorem m_778 : Cond.instanceMethod yX3_number ∈ wAll := inA_wA_32 _ (List.mem_of_getElem? (i := 10) rfl)
theorem m_779 : Cond.selects RX3 yX3_number yX3_number ∈ wAll := inA_wA_32 _ (List.mem_of_getElem? (i := 11) rfl)
theorem m_780 : Cond.fieldLink RX3 104 "CardBowl$Town" "y" "[I" ∈ wAll := inA_wA_32 _ (List.mem_of_getElem? (i := 12) rfl)
theorem m_781 : Cond.fieldLink RX3 109 "CardBowl$Town" "rank" "[I" ∈ wAll := inA_wA_32 _ (List.mem_of_getElem? (i := 13) rfl)
theorem m_782 : Cond.fieldLink RX3 113 "CardBowl$Town" "weekday" "[I" ∈ wAll := inA_wA_32 _ (List.mem_of_getElem? (i := 14) rfl)
theorem m_783 : Cond.fieldLink RX3 118 "CardBowl$Town" "from" "[I" ∈ wAll := inA_wA_32 _ (List.mem_of_getElem? (i := 15) rfl)
theorem m_784 : Cond.fieldLink RX3 121 "CardBowl$Town" "to" "[I" ∈ wAll := inA_wA_32 _ (List.mem_of_getElem? (i := 16) rfl)
theorem m_785 : Cond.fieldLink RX3 124 "CardBowl$Town" "came" "[I" ∈ wAll := inA_wA_32 _ (List.mem_of_getElem? (i := 17) rfl)
theorem m_786 : Cond.methodLink RX3 128 yX3_takes ∈ wAll := inA_wA_32 _ (List.mem_of_getElem? (i := 18) rfl)
theorem m_787 : Cond.instanceMethod yX3_takes ∈ wAll := inA_wA_32 _ (List.mem_of_getElem? (i := 19) rfl)
theorem m_788 : Cond.selects RX3 yX3_takes yX3_takes ∈ wAll := inA_wA_32 _ (List.mem_of_getElem? (i := 20) rfl)
theorem m_789 : Cond.fieldLink RX3 132 "CardBowl$Town" "bride" "[I" ∈ wAll := inA_wA_32 _ (List.mem_of_getElem? (i := 21) rfl)
theorem m_790 : Cond.code yX3_readKnow cX3_readKnow 3 none ∈ wAll := inA_wA_32 _ (List.mem_of_getElem? (i := 22) rfl)
theorem m_791 : Cond.fieldLink RX3 139 "CardBowl$Town" "told" "[I" ∈ wAll := inA_wA_32 _ (List.mem_of_getElem? (i := 23) rfl)
theorem m_792 : Cond.code yX3_readOther cX3_readOther 2 none ∈ wAll := inA_wA_33 _ (List.mem_of_getElem? (i := 0) rfl)
theorem m_793 : Cond.methodLink RX3 74 yX3_readHouse ∈ wAll := inA_wA_33 _ (List.mem_of_getElem? (i := 1) rfl)
theorem m_794 : Cond.instanceMethod yX3_readHouse ∈ wAll := inA_wA_33 _ (List.mem_of_getElem? (i := 2) rfl)
theorem m_795 : Cond.selects RX3 yX3_readHouse yX3_readHouse ∈ wAll := inA_wA_33 _ (List.mem_of_getElem? (i := 3) rfl)
theorem m_796 : Cond.methodLink RX3 77 yX3_readKnow ∈ wAll := inA_wA_33 _ (List.mem_of_getElem? (i := 4) rfl)
theorem m_797 : Cond.instanceMethod yX3_readKnow ∈ wAll := inA_wA_33 _ (List.mem_of_getElem? (i := 5) rfl)
theorem m_798 : Cond.selects RX3 yX3_readKnow yX3_readKnow ∈ wAll := inA_wA_33 _ (List.mem_of_getElem? (i := 6) rfl)
theorem m_799 : Cond.fieldLink RX3 83 "CardBowl$Town" "fresh" "I" ∈ wAll := inA_wA_33 _ (List.mem_of_getElem? (i := 7) rfl)
theorem m_800 : Cond.fieldLink RX3 86 "CardBowl$Town" "introducers" "I" ∈ wAll := inA_wA_33 _ (List.mem_of_getElem? (i := 8) rfl)
theorem m_801 : Cond.code yX3_readOwes cX3_readOwes 3 none ∈ wAll := inA_wA_33 _ (List.mem_of_getElem? (i := 9) rfl)
theorem m_802 : Cond.fieldLink RX3 142 "CardBowl$Code" "lines" "I" ∈ wAll := inA_wA_33 _ (List.mem_of_getElem? (i := 10) rfl)
theorem m_803 : Cond.fieldLink RX3 147 "CardBowl$Code" "paying" "[I" ∈ wAll := inA_wA_33 _ (List.mem_of_getElem? (i := 11) rfl)
theorem m_804 : Cond.fieldLink RX3 150 "CardBowl$Code" "kind" "[I" ∈ wAll := inA_wA_33 _ (List.mem_of_getElem? (i := 12) rfl)
theorem m_805 : Cond.fieldLink RX3 156 "CardBowl$Code" "within" "[I" ∈ wAll := inA_wA_33 _ (List.mem_of_getElem? (i := 13) rfl)
theorem m_806 : Cond.fieldLink RX3 158 "CardBowl$Code" "start" "[I" ∈ wAll := inA_wA_33 _ (List.mem_of_getElem? (i := 14) rfl)
theorem m_807 : Cond.fieldLink RX3 161 "CardBowl$Code" "used" "I" ∈ wAll := inA_wA_33 _ (List.mem_of_getElem? (i := 15) rfl)
theorem m_808 : Cond.methodLink RX3 166 yX3_readTests ∈ wAll := inA_wA_33 _ (List.mem_of_getElem? (i := 16) rfl)
theorem m_809 : Cond.instanceMethod yX3_readTests ∈ wAll := inA_wA_33 _ (List.mem_of_getElem? (i := 17) rfl)
theorem m_810 : Cond.selects RX3 yX3_readTests yX3_readTests ∈ wAll := inA_wA_33 _ (List.mem_of_getElem? (i := 18) rfl)
theorem m_811 : Cond.fieldLink RX3 169 "CardBowl$Code" "stop" "[I" ∈ wAll := inA_wA_33 _ (List.mem_of_getElem? (i := 19) rfl)
theorem m_812 : Cond.code yX3_readTests cX3_readTests 7 none ∈ wAll := inA_wA_33 _ (List.mem_of_getElem? (i := 20) rfl)
theorem m_813 : Cond.methodLink RX3 174 yX0_put ∈ wAll := inA_wA_33 _ (List.mem_of_getElem? (i := 21) rfl)
theorem m_814 : Cond.instanceMethod yX0_put ∈ wAll := inA_wA_33 _ (List.mem_of_getElem? (i := 22) rfl)
theorem m_815 : Cond.selects RX0 yX0_put yX0_put ∈ wAll := inA_wA_33 _ (List.mem_of_getElem? (i := 23) rfl)
theorem m_816 : Cond.code yX3_refuse cX3_refuse 2 none ∈ wAll := inA_wA_34 _ (List.mem_of_getElem? (i := 0) rfl)
theorem m_817 : Cond.code yX3_takeNumber cX3_takeNumber 1 none ∈ wAll := inA_wA_34 _ (List.mem_of_getElem? (i := 1) rfl)
theorem m_818 : Cond.constant RX3 188 (1000000) ∈ wAll := inA_wA_34 _ (List.mem_of_getElem? (i := 2) rfl)
theorem m_819 : Cond.code yX3_takeWord cX3_takeWord 1 none ∈ wAll := inA_wA_34 _ (List.mem_of_getElem? (i := 3) rfl)
theorem m_820 : Cond.code yX3_takes cX3_takes 2 (some .boolean) ∈ wAll := inA_wA_34 _ (List.mem_of_getElem? (i := 4) rfl)
theorem m_821 : Cond.code yX4_addDay cX4_addDay 6 none ∈ wAll := inA_wA_34 _ (List.mem_of_getElem? (i := 5) rfl)
theorem m_822 : Cond.fieldLink RX4 43 "CardBowl$Rounds" "soonest" "[I" ∈ wAll := inA_wA_34 _ (List.mem_of_getElem? (i := 6) rfl)
theorem m_823 : Cond.fieldLink RX4 46 "CardBowl$Rounds" "sums" "[I" ∈ wAll := inA_wA_34 _ (List.mem_of_getElem? (i := 7) rfl)
theorem m_824 : Cond.methodLink RX4 136 Lib.Math.min.name ∈ wAll := inA_wA_34 _ (List.mem_of_getElem? (i := 8) rfl)
theorem m_825 : Cond.code yX4_arrival cX4_arrival 7 (some .int) ∈ wAll := inA_wA_34 _ (List.mem_of_getElem? (i := 9) rfl)
theorem m_826 : Cond.fieldLink RX4 37 "CardBowl$Rounds" "apart" "[I" ∈ wAll := inA_wA_34 _ (List.mem_of_getElem? (i := 10) rfl)
theorem m_827 : Cond.fieldLink RX4 53 "CardBowl$Rounds" "spots" "I" ∈ wAll := inA_wA_34 _ (List.mem_of_getElem? (i := 11) rfl)
theorem m_828 : Cond.fieldLink RX4 40 "CardBowl$Rounds" "minute" "[I" ∈ wAll := inA_wA_34 _ (List.mem_of_getElem? (i := 12) rfl)
theorem m_829 : Cond.fieldLink RX4 22 "CardBowl$Rounds" "spot" "[I" ∈ wAll := inA_wA_34 _ (List.mem_of_getElem? (i := 13) rfl)
theorem m_830 : Cond.code yX4_bestSet cX4_bestSet 8 (some .int) ∈ wAll := inA_wA_34 _ (List.mem_of_getElem? (i := 14) rfl)
theorem m_831 : Cond.fieldLink RX4 139 "CardBowl$Rounds" "bestWorth" "I" ∈ wAll := inA_wA_34 _ (List.mem_of_getElem? (i := 15) rfl)
theorem m_832 : Cond.fieldLink RX4 92 "CardBowl$Rounds" "bestOver" "I" ∈ wAll := inA_wA_34 _ (List.mem_of_getElem? (i := 16) rfl)
theorem m_833 : Cond.methodLink RX4 142 yJ6_numberOfTrailingZeros_0f7a4 ∈ wAll := inA_wA_34 _ (List.mem_of_getElem? (i := 17) rfl)
theorem m_834 : Cond.initialized RJ6 ∈ wAll := inA_wA_34 _ (List.mem_of_getElem? (i := 18) rfl)
theorem m_835 : Cond.static yJ6_numberOfTrailingZeros_0f7a4 ∈ wAll := inA_wA_34 _ (List.mem_of_getElem? (i := 19) rfl)
theorem m_836 : Cond.fieldLink RX4 67 "CardBowl$State" "debts" "LCardBowl$Debts;" ∈ wAll := inA_wA_34 _ (List.mem_of_getElem? (i := 20) rfl)
theorem m_837 : Cond.methodLink RX4 71 yX1_kindsOf ∈ wAll := inA_wA_34 _ (List.mem_of_getElem? (i := 21) rfl)
theorem m_838 : Cond.methodLink RX4 148 yX4_worthOf ∈ wAll := inA_wA_34 _ (List.mem_of_getElem? (i := 22) rfl)
theorem m_839 : Cond.initialized RX4 ∈ wAll := inA_wA_34 _ (List.mem_of_getElem? (i := 23) rfl)
theorem m_840 : Cond.static yX4_worthOf ∈ wAll := inA_wA_35 _ (List.mem_of_getElem? (i := 0) rfl)
theorem m_841 : Cond.code yX4_canBeSeen cX4_canBeSeen 6 (some .boolean) ∈ wAll := inA_wA_35 _ (List.mem_of_getElem? (i := 1) rfl)
theorem m_842 : Cond.methodLink RX4 101 yX4_lookAt ∈ wAll := inA_wA_35 _ (List.mem_of_getElem? (i := 2) rfl)
theorem m_843 : Cond.instanceMethod yX4_lookAt ∈ wAll := inA_wA_35 _ (List.mem_of_getElem? (i := 3) rfl)
theorem m_844 : Cond.selects RX4 yX4_lookAt yX4_lookAt ∈ wAll := inA_wA_35 _ (List.mem_of_getElem? (i := 4) rfl)
theorem m_845 : Cond.fieldLink RX4 56 "CardBowl$State" "town" "LCardBowl$Town;" ∈ wAll := inA_wA_35 _ (List.mem_of_getElem? (i := 5) rfl)
theorem m_846 : Cond.methodLink RX4 105 yX7_minutes ∈ wAll := inA_wA_35 _ (List.mem_of_getElem? (i := 6) rfl)
theorem m_847 : Cond.instanceMethod yX7_minutes ∈ wAll := inA_wA_35 _ (List.mem_of_getElem? (i := 7) rfl)
theorem m_848 : Cond.selects RX7 yX7_minutes yX7_minutes ∈ wAll := inA_wA_35 _ (List.mem_of_getElem? (i := 8) rfl)
theorem m_849 : Cond.methodLink RX4 133 yX4_seen ∈ wAll := inA_wA_35 _ (List.mem_of_getElem? (i := 9) rfl)
theorem m_850 : Cond.instanceMethod yX4_seen ∈ wAll := inA_wA_35 _ (List.mem_of_getElem? (i := 10) rfl)
theorem m_851 : Cond.selects RX4 yX4_seen yX4_seen ∈ wAll := inA_wA_35 _ (List.mem_of_getElem? (i := 11) rfl)
theorem m_852 : Cond.fieldLink RX4 172 "CardBowl$State" "day" "I" ∈ wAll := inA_wA_35 _ (List.mem_of_getElem? (i := 12) rfl)
theorem m_853 : Cond.methodLink RX4 120 yX4_isAtHome ∈ wAll := inA_wA_35 _ (List.mem_of_getElem? (i := 13) rfl)
theorem m_854 : Cond.static yX4_isAtHome ∈ wAll := inA_wA_35 _ (List.mem_of_getElem? (i := 14) rfl)
theorem m_855 : Cond.code yX4_canWalk cX4_canWalk 10 (some .boolean) ∈ wAll := inA_wA_35 _ (List.mem_of_getElem? (i := 15) rfl)
theorem m_856 : Cond.fieldLink RX4 157 "CardBowl$Slot" "size" "I" ∈ wAll := inA_wA_35 _ (List.mem_of_getElem? (i := 16) rfl)
theorem m_857 : Cond.methodLink RX4 162 yX5_small ∈ wAll := inA_wA_35 _ (List.mem_of_getElem? (i := 17) rfl)
theorem m_858 : Cond.initialized RX5 ∈ wAll := inA_wA_35 _ (List.mem_of_getElem? (i := 18) rfl)
theorem m_859 : Cond.instanceMethod yX5_small ∈ wAll := inA_wA_35 _ (List.mem_of_getElem? (i := 19) rfl)
theorem m_860 : Cond.selects RX5 yX5_small yX5_small ∈ wAll := inA_wA_35 _ (List.mem_of_getElem? (i := 20) rfl)
theorem m_861 : Cond.methodLink RX4 165 yX7_has ∈ wAll := inA_wA_35 _ (List.mem_of_getElem? (i := 21) rfl)
theorem m_862 : Cond.instanceMethod yX7_has ∈ wAll := inA_wA_35 _ (List.mem_of_getElem? (i := 22) rfl)
theorem m_863 : Cond.selects RX7 yX7_has yX7_has ∈ wAll := inA_wA_35 _ (List.mem_of_getElem? (i := 23) rfl)
theorem m_864 : Cond.code yX4_fewestDays cX4_fewestDays 5 (some .int) ∈ wAll := inA_wA_36 _ (List.mem_of_getElem? (i := 0) rfl)
theorem m_865 : Cond.fieldLink RX4 49 "CardBowl$Rounds" "planned" "Z" ∈ wAll := inA_wA_36 _ (List.mem_of_getElem? (i := 1) rfl)
theorem m_866 : Cond.fieldLink RX4 15 "CardBowl$Rounds" "owner" "I" ∈ wAll := inA_wA_36 _ (List.mem_of_getElem? (i := 2) rfl)
theorem m_867 : Cond.methodLink RX4 169 yX4_gatherDeadlines ∈ wAll := inA_wA_36 _ (List.mem_of_getElem? (i := 3) rfl)
theorem m_868 : Cond.instanceMethod yX4_gatherDeadlines ∈ wAll := inA_wA_36 _ (List.mem_of_getElem? (i := 4) rfl)
theorem m_869 : Cond.selects RX4 yX4_gatherDeadlines yX4_gatherDeadlines ∈ wAll := inA_wA_36 _ (List.mem_of_getElem? (i := 5) rfl)
theorem m_870 : Cond.methodLink RX4 77 yX4_lookAtSpots ∈ wAll := inA_wA_36 _ (List.mem_of_getElem? (i := 6) rfl)
theorem m_871 : Cond.instanceMethod yX4_lookAtSpots ∈ wAll := inA_wA_36 _ (List.mem_of_getElem? (i := 7) rfl)
theorem m_872 : Cond.selects RX4 yX4_lookAtSpots yX4_lookAtSpots ∈ wAll := inA_wA_36 _ (List.mem_of_getElem? (i := 8) rfl)
theorem m_873 : Cond.methodLink RX4 85 yX4_reckonMinutes ∈ wAll := inA_wA_36 _ (List.mem_of_getElem? (i := 9) rfl)
theorem m_874 : Cond.instanceMethod yX4_reckonMinutes ∈ wAll := inA_wA_36 _ (List.mem_of_getElem? (i := 10) rfl)
theorem m_875 : Cond.selects RX4 yX4_reckonMinutes yX4_reckonMinutes ∈ wAll := inA_wA_36 _ (List.mem_of_getElem? (i := 11) rfl)
theorem m_876 : Cond.methodLink RX4 81 yX4_openSpots ∈ wAll := inA_wA_36 _ (List.mem_of_getElem? (i := 12) rfl)
theorem m_877 : Cond.instanceMethod yX4_openSpots ∈ wAll := inA_wA_36 _ (List.mem_of_getElem? (i := 13) rfl)
theorem m_878 : Cond.selects RX4 yX4_openSpots yX4_openSpots ∈ wAll := inA_wA_36 _ (List.mem_of_getElem? (i := 14) rfl)
theorem m_879 : Cond.methodLink RX4 175 yX4_inTime ∈ wAll := inA_wA_36 _ (List.mem_of_getElem? (i := 15) rfl)
theorem m_880 : Cond.instanceMethod yX4_inTime ∈ wAll := inA_wA_36 _ (List.mem_of_getElem? (i := 16) rfl)
theorem m_881 : Cond.selects RX4 yX4_inTime yX4_inTime ∈ wAll := inA_wA_36 _ (List.mem_of_getElem? (i := 17) rfl)
theorem m_882 : Cond.methodLink RX4 178 yX4_addDay ∈ wAll := inA_wA_36 _ (List.mem_of_getElem? (i := 18) rfl)
theorem m_883 : Cond.instanceMethod yX4_addDay ∈ wAll := inA_wA_36 _ (List.mem_of_getElem? (i := 19) rfl)
theorem m_884 : Cond.selects RX4 yX4_addDay yX4_addDay ∈ wAll := inA_wA_36 _ (List.mem_of_getElem? (i := 20) rfl)
theorem m_885 : Cond.code yX4_gatherDeadlines cX4_gatherDeadlines 7 none ∈ wAll := inA_wA_36 _ (List.mem_of_getElem? (i := 21) rfl)
theorem m_886 : Cond.methodLink RX4 181 yX1_nth ∈ wAll := inA_wA_36 _ (List.mem_of_getElem? (i := 22) rfl)
theorem m_887 : Cond.instanceMethod yX1_nth ∈ wAll := inA_wA_36 _ (List.mem_of_getElem? (i := 23) rfl)
theorem m_888 : Cond.selects RX1 yX1_nth yX1_nth ∈ wAll := inA_wA_37 _ (List.mem_of_getElem? (i := 0) rfl)
theorem m_889 : Cond.fieldLink RX4 184 "CardBowl$Debts" "creditor" "[I" ∈ wAll := inA_wA_37 _ (List.mem_of_getElem? (i := 1) rfl)
theorem m_890 : Cond.fieldLink RX4 25 "CardBowl$Rounds" "deadline" "[I" ∈ wAll := inA_wA_37 _ (List.mem_of_getElem? (i := 2) rfl)
theorem m_891 : Cond.fieldLink RX4 187 "CardBowl$Debts" "due" "[I" ∈ wAll := inA_wA_37 _ (List.mem_of_getElem? (i := 3) rfl)
theorem m_892 : Cond.code yX4_inTime cX4_inTime 4 (some .int) ∈ wAll := inA_wA_37 _ (List.mem_of_getElem? (i := 4) rfl)
theorem m_893 : Cond.code yX4_init cX4_init 1 none ∈ wAll := inA_wA_37 _ (List.mem_of_getElem? (i := 5) rfl)
theorem m_894 : Cond.methodLink RX4 5 objectInit ∈ wAll := inA_wA_37 _ (List.mem_of_getElem? (i := 6) rfl)
theorem m_895 : Cond.fieldLink RX4 11 "CardBowl$Rounds" "order" "[I" ∈ wAll := inA_wA_37 _ (List.mem_of_getElem? (i := 7) rfl)
theorem m_896 : Cond.fieldLink RX4 19 "CardBowl$Rounds" "weekday" "I" ∈ wAll := inA_wA_37 _ (List.mem_of_getElem? (i := 8) rfl)
theorem m_897 : Cond.fieldLink RX4 28 "CardBowl$Rounds" "opens" "[I" ∈ wAll := inA_wA_37 _ (List.mem_of_getElem? (i := 9) rfl)
theorem m_898 : Cond.fieldLink RX4 31 "CardBowl$Rounds" "closes" "[I" ∈ wAll := inA_wA_37 _ (List.mem_of_getElem? (i := 10) rfl)
theorem m_899 : Cond.fieldLink RX4 34 "CardBowl$Rounds" "stays" "[I" ∈ wAll := inA_wA_37 _ (List.mem_of_getElem? (i := 11) rfl)
theorem m_900 : Cond.code yX4_isAtHome cX4_isAtHome 4 (some .boolean) ∈ wAll := inA_wA_37 _ (List.mem_of_getElem? (i := 12) rfl)
theorem m_901 : Cond.methodLink RX4 108 yX4_isByCall ∈ wAll := inA_wA_37 _ (List.mem_of_getElem? (i := 13) rfl)
theorem m_902 : Cond.static yX4_isByCall ∈ wAll := inA_wA_37 _ (List.mem_of_getElem? (i := 14) rfl)
theorem m_903 : Cond.fieldLink RX4 118 "CardBowl$Town" "weekday" "[I" ∈ wAll := inA_wA_37 _ (List.mem_of_getElem? (i := 15) rfl)
theorem m_904 : Cond.code yX4_isByCall cX4_isByCall 3 (some .boolean) ∈ wAll := inA_wA_37 _ (List.mem_of_getElem? (i := 16) rfl)
theorem m_905 : Cond.code yX4_latest cX4_latest 8 (some .int) ∈ wAll := inA_wA_37 _ (List.mem_of_getElem? (i := 17) rfl)
theorem m_906 : Cond.methodLink RX4 124 Lib.Math.max.name ∈ wAll := inA_wA_37 _ (List.mem_of_getElem? (i := 18) rfl)
theorem m_907 : Cond.code yX4_lookAt cX4_lookAt 5 none ∈ wAll := inA_wA_37 _ (List.mem_of_getElem? (i := 19) rfl)
theorem m_908 : Cond.fieldLink RX4 112 "CardBowl$Town" "from" "[I" ∈ wAll := inA_wA_37 _ (List.mem_of_getElem? (i := 20) rfl)
theorem m_909 : Cond.fieldLink RX4 115 "CardBowl$Town" "to" "[I" ∈ wAll := inA_wA_37 _ (List.mem_of_getElem? (i := 21) rfl)
theorem m_910 : Cond.code yX4_lookAtSpots cX4_lookAtSpots 6 none ∈ wAll := inA_wA_37 _ (List.mem_of_getElem? (i := 22) rfl)
theorem m_911 : Cond.code yX4_lostBits cX4_lostBits 6 (some .int) ∈ wAll := inA_wA_37 _ (List.mem_of_getElem? (i := 23) rfl)
theorem m_912 : Cond.methodLink RX4 190 yX4_canBeSeen ∈ wAll := inA_wA_38 _ (List.mem_of_getElem? (i := 0) rfl)
theorem m_913 : Cond.instanceMethod yX4_canBeSeen ∈ wAll := inA_wA_38 _ (List.mem_of_getElem? (i := 1) rfl)
theorem m_914 : Cond.selects RX4 yX4_canBeSeen yX4_canBeSeen ∈ wAll := inA_wA_38 _ (List.mem_of_getElem? (i := 2) rfl)
theorem m_915 : Cond.code yX4_openSpots cX4_openSpots 5 (some .int) ∈ wAll := inA_wA_38 _ (List.mem_of_getElem? (i := 3) rfl)
theorem m_916 : Cond.code yX4_plan cX4_plan 5 none ∈ wAll := inA_wA_38 _ (List.mem_of_getElem? (i := 4) rfl)
theorem m_917 : Cond.fieldLink RX4 62 "CardBowl$Town" "houses" "I" ∈ wAll := inA_wA_38 _ (List.mem_of_getElem? (i := 5) rfl)
theorem m_918 : Cond.methodLink RX4 89 yX4_bestSet ∈ wAll := inA_wA_38 _ (List.mem_of_getElem? (i := 6) rfl)
theorem m_919 : Cond.instanceMethod yX4_bestSet ∈ wAll := inA_wA_38 _ (List.mem_of_getElem? (i := 7) rfl)
theorem m_920 : Cond.selects RX4 yX4_bestSet yX4_bestSet ∈ wAll := inA_wA_38 _ (List.mem_of_getElem? (i := 8) rfl)
theorem m_921 : Cond.methodLink RX4 95 yX4_reckonLatest ∈ wAll := inA_wA_38 _ (List.mem_of_getElem? (i := 9) rfl)
theorem m_922 : Cond.instanceMethod yX4_reckonLatest ∈ wAll := inA_wA_38 _ (List.mem_of_getElem? (i := 10) rfl)
theorem m_923 : Cond.selects RX4 yX4_reckonLatest yX4_reckonLatest ∈ wAll := inA_wA_38 _ (List.mem_of_getElem? (i := 11) rfl)
theorem m_924 : Cond.methodLink RX4 98 yX4_putInOrder ∈ wAll := inA_wA_38 _ (List.mem_of_getElem? (i := 12) rfl)
theorem m_925 : Cond.instanceMethod yX4_putInOrder ∈ wAll := inA_wA_38 _ (List.mem_of_getElem? (i := 13) rfl)
theorem m_926 : Cond.selects RX4 yX4_putInOrder yX4_putInOrder ∈ wAll := inA_wA_38 _ (List.mem_of_getElem? (i := 14) rfl)
theorem m_927 : Cond.code yX4_putInOrder cX4_putInOrder 10 none ∈ wAll := inA_wA_38 _ (List.mem_of_getElem? (i := 15) rfl)
theorem m_928 : Cond.fieldLink RX4 154 "CardBowl$Rounds" "length" "I" ∈ wAll := inA_wA_38 _ (List.mem_of_getElem? (i := 16) rfl)
theorem m_929 : Cond.code yX4_reckonLatest cX4_reckonLatest 5 none ∈ wAll := inA_wA_38 _ (List.mem_of_getElem? (i := 17) rfl)
theorem m_930 : Cond.methodLink RX4 151 yX4_latest ∈ wAll := inA_wA_38 _ (List.mem_of_getElem? (i := 18) rfl)
theorem m_931 : Cond.instanceMethod yX4_latest ∈ wAll := inA_wA_38 _ (List.mem_of_getElem? (i := 19) rfl)
theorem m_932 : Cond.selects RX4 yX4_latest yX4_latest ∈ wAll := inA_wA_38 _ (List.mem_of_getElem? (i := 20) rfl)
theorem m_933 : Cond.code yX4_reckonMinutes cX4_reckonMinutes 8 none ∈ wAll := inA_wA_38 _ (List.mem_of_getElem? (i := 21) rfl)
theorem m_934 : Cond.methodLink RX4 129 yX4_arrival ∈ wAll := inA_wA_38 _ (List.mem_of_getElem? (i := 22) rfl)
theorem m_935 : Cond.instanceMethod yX4_arrival ∈ wAll := inA_wA_38 _ (List.mem_of_getElem? (i := 23) rfl)
theorem m_936 : Cond.selects RX4 yX4_arrival yX4_arrival ∈ wAll := inA_wA_39 _ (List.mem_of_getElem? (i := 0) rfl)
theorem m_937 : Cond.code yX4_seen cX4_seen 4 (some .int) ∈ wAll := inA_wA_39 _ (List.mem_of_getElem? (i := 1) rfl)
theorem m_938 : Cond.code yX4_worthOf cX4_worthOf 3 (some .int) ∈ wAll := inA_wA_39 _ (List.mem_of_getElem? (i := 2) rfl)
theorem m_939 : Cond.code yX5_cut cX5_cut 3 (some .long) ∈ wAll := inA_wA_39 _ (List.mem_of_getElem? (i := 3) rfl)
theorem m_940 : Cond.fieldLink RX5 19 "CardBowl$Slot" "width" "I" ∈ wAll := inA_wA_39 _ (List.mem_of_getElem? (i := 4) rfl)
theorem m_941 : Cond.code yX5_hasRun cX5_hasRun 3 (some .boolean) ∈ wAll := inA_wA_39 _ (List.mem_of_getElem? (i := 5) rfl)
theorem m_942 : Cond.fieldLink RX5 23 "CardBowl$Slot" "size" "I" ∈ wAll := inA_wA_39 _ (List.mem_of_getElem? (i := 6) rfl)
theorem m_943 : Cond.code yX5_init cX5_init 1 none ∈ wAll := inA_wA_39 _ (List.mem_of_getElem? (i := 7) rfl)
theorem m_944 : Cond.methodLink RX5 3 objectInit ∈ wAll := inA_wA_39 _ (List.mem_of_getElem? (i := 8) rfl)
theorem m_945 : Cond.fieldLink RX5 9 "CardBowl$Slot" "numbers" "[J" ∈ wAll := inA_wA_39 _ (List.mem_of_getElem? (i := 9) rfl)
theorem m_946 : Cond.code yX5_lay cX5_lay 3 none ∈ wAll := inA_wA_39 _ (List.mem_of_getElem? (i := 10) rfl)
theorem m_947 : Cond.fieldLink RX5 15 "CardBowl$Slot" "filled" "Z" ∈ wAll := inA_wA_39 _ (List.mem_of_getElem? (i := 11) rfl)
theorem m_948 : Cond.methodLink RX5 26 yJ7_fill_d0a16 ∈ wAll := inA_wA_39 _ (List.mem_of_getElem? (i := 12) rfl)
theorem m_949 : Cond.static yJ7_fill_d0a16 ∈ wAll := inA_wA_39 _ (List.mem_of_getElem? (i := 13) rfl)
theorem m_950 : Cond.code yX5_small cX5_small 2 (some .int) ∈ wAll := inA_wA_39 _ (List.mem_of_getElem? (i := 14) rfl)
theorem m_951 : Cond.constantLong RX5 32 (16) ∈ wAll := inA_wA_39 _ (List.mem_of_getElem? (i := 15) rfl)
theorem m_952 : Cond.code yX6_acquaint cX6_acquaint 3 none ∈ wAll := inA_wA_39 _ (List.mem_of_getElem? (i := 16) rfl)
theorem m_953 : Cond.code yX6_act cX6_act 5 (some .int) ∈ wAll := inA_wA_39 _ (List.mem_of_getElem? (i := 17) rfl)
theorem m_954 : Cond.fieldLink RX6 28 "CardBowl$State" "debts" "LCardBowl$Debts;" ∈ wAll := inA_wA_39 _ (List.mem_of_getElem? (i := 18) rfl)
theorem m_955 : Cond.fieldLink RX6 21 "CardBowl$State" "code" "LCardBowl$Code;" ∈ wAll := inA_wA_39 _ (List.mem_of_getElem? (i := 19) rfl)
theorem m_956 : Cond.fieldLink RX6 69 "CardBowl$State" "day" "I" ∈ wAll := inA_wA_39 _ (List.mem_of_getElem? (i := 20) rfl)
theorem m_957 : Cond.methodLink RX6 94 yX6_knew ∈ wAll := inA_wA_39 _ (List.mem_of_getElem? (i := 21) rfl)
theorem m_958 : Cond.initialized RX6 ∈ wAll := inA_wA_39 _ (List.mem_of_getElem? (i := 22) rfl)
theorem m_959 : Cond.instanceMethod yX6_knew ∈ wAll := inA_wA_39 _ (List.mem_of_getElem? (i := 23) rfl)
theorem m_960 : Cond.selects RX6 yX6_knew yX6_knew ∈ wAll := inA_wA_40 _ (List.mem_of_getElem? (i := 0) rfl)
theorem m_961 : Cond.methodLink RX6 110 yX6_deal ∈ wAll := inA_wA_40 _ (List.mem_of_getElem? (i := 1) rfl)
theorem m_962 : Cond.instanceMethod yX6_deal ∈ wAll := inA_wA_40 _ (List.mem_of_getElem? (i := 2) rfl)
theorem m_963 : Cond.selects RX6 yX6_deal yX6_deal ∈ wAll := inA_wA_40 _ (List.mem_of_getElem? (i := 3) rfl)
theorem m_964 : Cond.fieldLink RX6 72 "CardBowl$State" "paid" "I" ∈ wAll := inA_wA_40 _ (List.mem_of_getElem? (i := 4) rfl)
theorem m_965 : Cond.fieldLink RX6 35 "CardBowl$State" "deeds" "LCardBowl$Deeds;" ∈ wAll := inA_wA_40 _ (List.mem_of_getElem? (i := 5) rfl)
theorem m_966 : Cond.methodLink RX6 114 yX2_add ∈ wAll := inA_wA_40 _ (List.mem_of_getElem? (i := 6) rfl)
theorem m_967 : Cond.initialized RX2 ∈ wAll := inA_wA_40 _ (List.mem_of_getElem? (i := 7) rfl)
theorem m_968 : Cond.instanceMethod yX2_add ∈ wAll := inA_wA_40 _ (List.mem_of_getElem? (i := 8) rfl)
theorem m_969 : Cond.selects RX2 yX2_add yX2_add ∈ wAll := inA_wA_40 _ (List.mem_of_getElem? (i := 9) rfl)
theorem m_970 : Cond.fieldLink RX6 39 "CardBowl$State" "knows" "[I" ∈ wAll := inA_wA_40 _ (List.mem_of_getElem? (i := 10) rfl)
theorem m_971 : Cond.methodLink RX6 118 yX6_acquaint ∈ wAll := inA_wA_40 _ (List.mem_of_getElem? (i := 11) rfl)
theorem m_972 : Cond.static yX6_acquaint ∈ wAll := inA_wA_40 _ (List.mem_of_getElem? (i := 12) rfl)
theorem m_973 : Cond.code yX6_barrier cX6_barrier 4 (some .int) ∈ wAll := inA_wA_40 _ (List.mem_of_getElem? (i := 13) rfl)
theorem m_974 : Cond.fieldLink RX6 12 "CardBowl$State" "town" "LCardBowl$Town;" ∈ wAll := inA_wA_40 _ (List.mem_of_getElem? (i := 14) rfl)
theorem m_975 : Cond.methodLink RX6 81 yX7_isThere ∈ wAll := inA_wA_40 _ (List.mem_of_getElem? (i := 15) rfl)
theorem m_976 : Cond.instanceMethod yX7_isThere ∈ wAll := inA_wA_40 _ (List.mem_of_getElem? (i := 16) rfl)
theorem m_977 : Cond.selects RX7 yX7_isThere yX7_isThere ∈ wAll := inA_wA_40 _ (List.mem_of_getElem? (i := 17) rfl)
theorem m_978 : Cond.methodLink RX6 85 yX6_isOpenTo ∈ wAll := inA_wA_40 _ (List.mem_of_getElem? (i := 18) rfl)
theorem m_979 : Cond.instanceMethod yX6_isOpenTo ∈ wAll := inA_wA_40 _ (List.mem_of_getElem? (i := 19) rfl)
theorem m_980 : Cond.selects RX6 yX6_isOpenTo yX6_isOpenTo ∈ wAll := inA_wA_40 _ (List.mem_of_getElem? (i := 20) rfl)
theorem m_981 : Cond.fieldLink RX6 88 "CardBowl$Town" "weekday" "[I" ∈ wAll := inA_wA_40 _ (List.mem_of_getElem? (i := 21) rfl)
theorem m_982 : Cond.methodLink RX6 91 yX7_waits ∈ wAll := inA_wA_40 _ (List.mem_of_getElem? (i := 22) rfl)
theorem m_983 : Cond.instanceMethod yX7_waits ∈ wAll := inA_wA_40 _ (List.mem_of_getElem? (i := 23) rfl)
theorem m_984 : Cond.selects RX7 yX7_waits yX7_waits ∈ wAll := inA_wA_41 _ (List.mem_of_getElem? (i := 0) rfl)
theorem m_985 : Cond.code yX6_begin cX6_begin 3 none ∈ wAll := inA_wA_41 _ (List.mem_of_getElem? (i := 1) rfl)
theorem m_986 : Cond.methodLink RX6 46 yX7_copy ∈ wAll := inA_wA_41 _ (List.mem_of_getElem? (i := 2) rfl)
theorem m_987 : Cond.instanceMethod yX7_copy ∈ wAll := inA_wA_41 _ (List.mem_of_getElem? (i := 3) rfl)
theorem m_988 : Cond.selects RX7 yX7_copy yX7_copy ∈ wAll := inA_wA_41 _ (List.mem_of_getElem? (i := 4) rfl)
theorem m_989 : Cond.methodLink RX6 50 yX0_copy ∈ wAll := inA_wA_41 _ (List.mem_of_getElem? (i := 5) rfl)
theorem m_990 : Cond.instanceMethod yX0_copy ∈ wAll := inA_wA_41 _ (List.mem_of_getElem? (i := 6) rfl)
theorem m_991 : Cond.selects RX0 yX0_copy yX0_copy ∈ wAll := inA_wA_41 _ (List.mem_of_getElem? (i := 7) rfl)
theorem m_992 : Cond.methodLink RX6 53 yX1_clear ∈ wAll := inA_wA_41 _ (List.mem_of_getElem? (i := 8) rfl)
theorem m_993 : Cond.instanceMethod yX1_clear ∈ wAll := inA_wA_41 _ (List.mem_of_getElem? (i := 9) rfl)
theorem m_994 : Cond.selects RX1 yX1_clear yX1_clear ∈ wAll := inA_wA_41 _ (List.mem_of_getElem? (i := 10) rfl)
theorem m_995 : Cond.fieldLink RX6 56 "CardBowl$Deeds" "size" "I" ∈ wAll := inA_wA_41 _ (List.mem_of_getElem? (i := 11) rfl)
theorem m_996 : Cond.fieldLink RX6 60 "CardBowl$Town" "told" "[I" ∈ wAll := inA_wA_41 _ (List.mem_of_getElem? (i := 12) rfl)
theorem m_997 : Cond.methodLink RX6 63 arraycopyName ∈ wAll := inA_wA_41 _ (List.mem_of_getElem? (i := 13) rfl)
theorem m_998 : Cond.code yX6_canDrop cX6_canDrop 3 (some .boolean) ∈ wAll := inA_wA_41 _ (List.mem_of_getElem? (i := 14) rfl)
theorem m_999 : Cond.methodLink RX6 154 yX1_kindsOf ∈ wAll := inA_wA_41 _ (List.mem_of_getElem? (i := 15) rfl)
theorem m_1000 : Cond.methodLink RX6 171 yX6_holdsTogether ∈ wAll := inA_wA_41 _ (List.mem_of_getElem? (i := 16) rfl)
theorem m_1001 : Cond.instanceMethod yX6_holdsTogether ∈ wAll := inA_wA_41 _ (List.mem_of_getElem? (i := 17) rfl)
theorem m_1002 : Cond.selects RX6 yX6_holdsTogether yX6_holdsTogether ∈ wAll := inA_wA_41 _ (List.mem_of_getElem? (i := 18) rfl)
theorem m_1003 : Cond.code yX6_chance cX6_chance 4 (some .int) ∈ wAll := inA_wA_41 _ (List.mem_of_getElem? (i := 19) rfl)
theorem m_1004 : Cond.code yX6_copy cX6_copy 2 none ∈ wAll := inA_wA_41 _ (List.mem_of_getElem? (i := 20) rfl)
theorem m_1005 : Cond.methodLink RX6 75 yX1_copy ∈ wAll := inA_wA_41 _ (List.mem_of_getElem? (i := 21) rfl)
theorem m_1006 : Cond.instanceMethod yX1_copy ∈ wAll := inA_wA_41 _ (List.mem_of_getElem? (i := 22) rfl)
theorem m_1007 : Cond.selects RX1 yX1_copy yX1_copy ∈ wAll := inA_wA_41 _ (List.mem_of_getElem? (i := 23) rfl)
theorem m_1008 : Cond.methodLink RX6 78 yX2_copy ∈ wAll := inA_wA_42 _ (List.mem_of_getElem? (i := 0) rfl)
theorem m_1009 : Cond.instanceMethod yX2_copy ∈ wAll := inA_wA_42 _ (List.mem_of_getElem? (i := 1) rfl)
theorem m_1010 : Cond.selects RX2 yX2_copy yX2_copy ∈ wAll := inA_wA_42 _ (List.mem_of_getElem? (i := 2) rfl)
theorem m_1011 : Cond.code yX6_deal cX6_deal 10 (some .int) ∈ wAll := inA_wA_42 _ (List.mem_of_getElem? (i := 3) rfl)
theorem m_1012 : Cond.methodLink RX6 122 yX1_settle ∈ wAll := inA_wA_42 _ (List.mem_of_getElem? (i := 4) rfl)
theorem m_1013 : Cond.instanceMethod yX1_settle ∈ wAll := inA_wA_42 _ (List.mem_of_getElem? (i := 5) rfl)
theorem m_1014 : Cond.selects RX1 yX1_settle yX1_settle ∈ wAll := inA_wA_42 _ (List.mem_of_getElem? (i := 6) rfl)
theorem m_1015 : Cond.fieldLink RX6 126 "CardBowl$Town" "rank" "[I" ∈ wAll := inA_wA_42 _ (List.mem_of_getElem? (i := 7) rfl)
theorem m_1016 : Cond.fieldLink RX6 129 "CardBowl$Debts" "open" "[I" ∈ wAll := inA_wA_42 _ (List.mem_of_getElem? (i := 8) rfl)
theorem m_1017 : Cond.methodLink RX6 132 yX0_lineFor ∈ wAll := inA_wA_42 _ (List.mem_of_getElem? (i := 9) rfl)
theorem m_1018 : Cond.instanceMethod yX0_lineFor ∈ wAll := inA_wA_42 _ (List.mem_of_getElem? (i := 10) rfl)
theorem m_1019 : Cond.selects RX0 yX0_lineFor yX0_lineFor ∈ wAll := inA_wA_42 _ (List.mem_of_getElem? (i := 11) rfl)
theorem m_1020 : Cond.fieldLink RX6 136 "CardBowl$Code" "kind" "[I" ∈ wAll := inA_wA_42 _ (List.mem_of_getElem? (i := 12) rfl)
theorem m_1021 : Cond.methodLink RX6 139 yX6_isOwed ∈ wAll := inA_wA_42 _ (List.mem_of_getElem? (i := 13) rfl)
theorem m_1022 : Cond.static yX6_isOwed ∈ wAll := inA_wA_42 _ (List.mem_of_getElem? (i := 14) rfl)
theorem m_1023 : Cond.fieldLink RX6 143 "CardBowl$Code" "within" "[I" ∈ wAll := inA_wA_42 _ (List.mem_of_getElem? (i := 15) rfl)
theorem m_1024 : Cond.methodLink RX6 146 Lib.Math.min.name ∈ wAll := inA_wA_42 _ (List.mem_of_getElem? (i := 16) rfl)
theorem m_1025 : Cond.methodLink RX6 151 yX1_add ∈ wAll := inA_wA_42 _ (List.mem_of_getElem? (i := 17) rfl)
theorem m_1026 : Cond.instanceMethod yX1_add ∈ wAll := inA_wA_42 _ (List.mem_of_getElem? (i := 18) rfl)
theorem m_1027 : Cond.selects RX1 yX1_add yX1_add ∈ wAll := inA_wA_42 _ (List.mem_of_getElem? (i := 19) rfl)
theorem m_1028 : Cond.code yX6_followCalls cX6_followCalls 3 none ∈ wAll := inA_wA_42 _ (List.mem_of_getElem? (i := 20) rfl)
theorem m_1029 : Cond.fieldLink RX6 43 "CardBowl$State" "follows" "[I" ∈ wAll := inA_wA_42 _ (List.mem_of_getElem? (i := 21) rfl)
theorem m_1030 : Cond.fieldLink RX6 163 "CardBowl$Deeds" "what" "[I" ∈ wAll := inA_wA_42 _ (List.mem_of_getElem? (i := 22) rfl)
theorem m_1031 : Cond.fieldLink RX6 157 "CardBowl$Deeds" "who" "[I" ∈ wAll := inA_wA_42 _ (List.mem_of_getElem? (i := 23) rfl)
theorem m_1032 : Cond.fieldLink RX6 160 "CardBowl$Deeds" "whom" "[I" ∈ wAll := inA_wA_43 _ (List.mem_of_getElem? (i := 0) rfl)
theorem m_1033 : Cond.code yX6_hanging cX6_hanging 8 (some .int) ∈ wAll := inA_wA_43 _ (List.mem_of_getElem? (i := 1) rfl)
theorem m_1034 : Cond.code yX6_holdsTogether cX6_holdsTogether 3 (some .boolean) ∈ wAll := inA_wA_43 _ (List.mem_of_getElem? (i := 2) rfl)
theorem m_1035 : Cond.methodLink RX6 168 yX6_hanging ∈ wAll := inA_wA_43 _ (List.mem_of_getElem? (i := 3) rfl)
theorem m_1036 : Cond.instanceMethod yX6_hanging ∈ wAll := inA_wA_43 _ (List.mem_of_getElem? (i := 4) rfl)
theorem m_1037 : Cond.selects RX6 yX6_hanging yX6_hanging ∈ wAll := inA_wA_43 _ (List.mem_of_getElem? (i := 5) rfl)
theorem m_1038 : Cond.code yX6_init cX6_init 1 none ∈ wAll := inA_wA_43 _ (List.mem_of_getElem? (i := 6) rfl)
theorem m_1039 : Cond.methodLink RX6 3 objectInit ∈ wAll := inA_wA_43 _ (List.mem_of_getElem? (i := 7) rfl)
theorem m_1040 : Cond.classLink RX6 9 RX7 ∈ wAll := inA_wA_43 _ (List.mem_of_getElem? (i := 8) rfl)
theorem m_1041 : Cond.classLink RX6 18 RX0 ∈ wAll := inA_wA_43 _ (List.mem_of_getElem? (i := 9) rfl)
theorem m_1042 : Cond.classLink RX6 25 RX1 ∈ wAll := inA_wA_43 _ (List.mem_of_getElem? (i := 10) rfl)
theorem m_1043 : Cond.instantiable RX1 8 ∈ wAll := inA_wA_43 _ (List.mem_of_getElem? (i := 11) rfl)
theorem m_1044 : Cond.classLink RX6 32 RX2 ∈ wAll := inA_wA_43 _ (List.mem_of_getElem? (i := 12) rfl)
theorem m_1045 : Cond.instantiable RX2 5 ∈ wAll := inA_wA_43 _ (List.mem_of_getElem? (i := 13) rfl)
theorem m_1046 : Cond.code yX6_isOpenTo cX6_isOpenTo 3 (some .boolean) ∈ wAll := inA_wA_43 _ (List.mem_of_getElem? (i := 14) rfl)
theorem m_1047 : Cond.methodLink RX6 98 yX7_isNew ∈ wAll := inA_wA_43 _ (List.mem_of_getElem? (i := 15) rfl)
theorem m_1048 : Cond.instanceMethod yX7_isNew ∈ wAll := inA_wA_43 _ (List.mem_of_getElem? (i := 16) rfl)
theorem m_1049 : Cond.selects RX7 yX7_isNew yX7_isNew ∈ wAll := inA_wA_43 _ (List.mem_of_getElem? (i := 17) rfl)
theorem m_1050 : Cond.methodLink RX6 101 yJ6_bitCount_0f7a4 ∈ wAll := inA_wA_43 _ (List.mem_of_getElem? (i := 18) rfl)
theorem m_1051 : Cond.static yJ6_bitCount_0f7a4 ∈ wAll := inA_wA_43 _ (List.mem_of_getElem? (i := 19) rfl)
theorem m_1052 : Cond.fieldLink RX6 107 "CardBowl$Town" "introducers" "I" ∈ wAll := inA_wA_43 _ (List.mem_of_getElem? (i := 20) rfl)
theorem m_1053 : Cond.code yX6_isOwed cX6_isOwed 4 (some .boolean) ∈ wAll := inA_wA_43 _ (List.mem_of_getElem? (i := 21) rfl)
theorem m_1054 : Cond.code yX6_knew cX6_knew 3 (some .int) ∈ wAll := inA_wA_43 _ (List.mem_of_getElem? (i := 22) rfl)
theorem m_1055 : Cond.code yX6_replay cX6_replay 8 none ∈ wAll := inA_wA_43 _ (List.mem_of_getElem? (i := 23) rfl)
theorem m_1056 : Cond.fieldLink RX6 166 "CardBowl$Deeds" "day" "[I" ∈ wAll := inA_wA_44 _ (List.mem_of_getElem? (i := 0) rfl)
theorem m_1057 : Cond.code yX6_ringBits cX6_ringBits 4 (some .int) ∈ wAll := inA_wA_44 _ (List.mem_of_getElem? (i := 1) rfl)
theorem m_1058 : Cond.code yX6_wouldMake cX6_wouldMake 5 (some .int) ∈ wAll := inA_wA_44 _ (List.mem_of_getElem? (i := 2) rfl)
theorem m_1059 : Cond.code yX7_clear cX7_clear 1 none ∈ wAll := inA_wA_44 _ (List.mem_of_getElem? (i := 3) rfl)
theorem m_1060 : Cond.fieldLink RX7 43 "CardBowl$Town" "houses" "I" ∈ wAll := inA_wA_44 _ (List.mem_of_getElem? (i := 4) rfl)
theorem m_1061 : Cond.fieldLink RX7 46 "CardBowl$Town" "fresh" "I" ∈ wAll := inA_wA_44 _ (List.mem_of_getElem? (i := 5) rfl)
theorem m_1062 : Cond.fieldLink RX7 11 "CardBowl$Town" "introducers" "I" ∈ wAll := inA_wA_44 _ (List.mem_of_getElem? (i := 6) rfl)
theorem m_1063 : Cond.fieldLink RX7 40 "CardBowl$Town" "told" "[I" ∈ wAll := inA_wA_44 _ (List.mem_of_getElem? (i := 7) rfl)
theorem m_1064 : Cond.methodLink RX7 49 yJ7_fill_53178 ∈ wAll := inA_wA_44 _ (List.mem_of_getElem? (i := 8) rfl)
theorem m_1065 : Cond.code yX7_copy cX7_copy 2 none ∈ wAll := inA_wA_44 _ (List.mem_of_getElem? (i := 9) rfl)
theorem m_1066 : Cond.fieldLink RX7 15 "CardBowl$Town" "x" "[I" ∈ wAll := inA_wA_44 _ (List.mem_of_getElem? (i := 10) rfl)
theorem m_1067 : Cond.methodLink RX7 55 arraycopyName ∈ wAll := inA_wA_44 _ (List.mem_of_getElem? (i := 11) rfl)
theorem m_1068 : Cond.fieldLink RX7 19 "CardBowl$Town" "y" "[I" ∈ wAll := inA_wA_44 _ (List.mem_of_getElem? (i := 12) rfl)
theorem m_1069 : Cond.fieldLink RX7 22 "CardBowl$Town" "rank" "[I" ∈ wAll := inA_wA_44 _ (List.mem_of_getElem? (i := 13) rfl)
theorem m_1070 : Cond.fieldLink RX7 25 "CardBowl$Town" "weekday" "[I" ∈ wAll := inA_wA_44 _ (List.mem_of_getElem? (i := 14) rfl)
theorem m_1071 : Cond.fieldLink RX7 28 "CardBowl$Town" "from" "[I" ∈ wAll := inA_wA_44 _ (List.mem_of_getElem? (i := 15) rfl)
theorem m_1072 : Cond.fieldLink RX7 31 "CardBowl$Town" "to" "[I" ∈ wAll := inA_wA_44 _ (List.mem_of_getElem? (i := 16) rfl)
theorem m_1073 : Cond.fieldLink RX7 34 "CardBowl$Town" "came" "[I" ∈ wAll := inA_wA_44 _ (List.mem_of_getElem? (i := 17) rfl)
theorem m_1074 : Cond.fieldLink RX7 37 "CardBowl$Town" "bride" "[I" ∈ wAll := inA_wA_44 _ (List.mem_of_getElem? (i := 18) rfl)
theorem m_1075 : Cond.code yX7_has cX7_has 2 (some .boolean) ∈ wAll := inA_wA_44 _ (List.mem_of_getElem? (i := 19) rfl)
theorem m_1076 : Cond.code yX7_hasPair cX7_hasPair 3 (some .boolean) ∈ wAll := inA_wA_44 _ (List.mem_of_getElem? (i := 20) rfl)
theorem m_1077 : Cond.methodLink RX7 61 yX7_has ∈ wAll := inA_wA_44 _ (List.mem_of_getElem? (i := 21) rfl)
theorem m_1078 : Cond.code yX7_init cX7_init 1 none ∈ wAll := inA_wA_44 _ (List.mem_of_getElem? (i := 22) rfl)
theorem m_1079 : Cond.methodLink RX7 3 objectInit ∈ wAll := inA_wA_44 _ (List.mem_of_getElem? (i := 23) rfl)
theorem m_1080 : Cond.code yX7_isNew cX7_isNew 3 (some .boolean) ∈ wAll := inA_wA_45 _ (List.mem_of_getElem? (i := 0) rfl)
theorem m_1081 : Cond.code yX7_isThere cX7_isThere 3 (some .boolean) ∈ wAll := inA_wA_45 _ (List.mem_of_getElem? (i := 1) rfl)
theorem m_1082 : Cond.code yX7_minutes cX7_minutes 3 (some .int) ∈ wAll := inA_wA_45 _ (List.mem_of_getElem? (i := 2) rfl)
theorem m_1083 : Cond.methodLink RX7 65 Lib.Math.abs.name ∈ wAll := inA_wA_45 _ (List.mem_of_getElem? (i := 3) rfl)
theorem m_1084 : Cond.code yX7_waits cX7_waits 3 (some .boolean) ∈ wAll := inA_wA_45 _ (List.mem_of_getElem? (i := 4) rfl)
theorem m_1085 : Cond.code yX8_everyoneToKnow cX8_everyoneToKnow 7 (some .int) ∈ wAll := inA_wA_45 _ (List.mem_of_getElem? (i := 5) rfl)
theorem m_1086 : Cond.fieldLink RX8 54 "CardBowl$State" "knows" "[I" ∈ wAll := inA_wA_45 _ (List.mem_of_getElem? (i := 6) rfl)
theorem m_1087 : Cond.fieldLink RX8 64 "CardBowl$State" "town" "LCardBowl$Town;" ∈ wAll := inA_wA_45 _ (List.mem_of_getElem? (i := 7) rfl)
theorem m_1088 : Cond.fieldLink RX8 68 "CardBowl$Town" "houses" "I" ∈ wAll := inA_wA_45 _ (List.mem_of_getElem? (i := 8) rfl)
theorem m_1089 : Cond.fieldLink RX8 73 "CardBowl$State" "day" "I" ∈ wAll := inA_wA_45 _ (List.mem_of_getElem? (i := 9) rfl)
theorem m_1090 : Cond.methodLink RX8 76 yX7_isThere ∈ wAll := inA_wA_45 _ (List.mem_of_getElem? (i := 10) rfl)
theorem m_1091 : Cond.methodLink RX8 80 yJ6_bitCount_0f7a4 ∈ wAll := inA_wA_45 _ (List.mem_of_getElem? (i := 11) rfl)
theorem m_1092 : Cond.fieldLink RX8 86 "CardBowl$Town" "introducers" "I" ∈ wAll := inA_wA_45 _ (List.mem_of_getElem? (i := 12) rfl)
theorem m_1093 : Cond.code yX8_gather cX8_gather 5 none ∈ wAll := inA_wA_45 _ (List.mem_of_getElem? (i := 13) rfl)
theorem m_1094 : Cond.fieldLink RX8 89 "CardBowl$Ways" "between" "I" ∈ wAll := inA_wA_45 _ (List.mem_of_getElem? (i := 14) rfl)
theorem m_1095 : Cond.fieldLink RX8 22 "CardBowl$Ways" "house" "[I" ∈ wAll := inA_wA_45 _ (List.mem_of_getElem? (i := 15) rfl)
theorem m_1096 : Cond.fieldLink RX8 25 "CardBowl$Ways" "friends" "[I" ∈ wAll := inA_wA_45 _ (List.mem_of_getElem? (i := 16) rfl)
theorem m_1097 : Cond.fieldLink RX8 28 "CardBowl$Ways" "links" "[I" ∈ wAll := inA_wA_45 _ (List.mem_of_getElem? (i := 17) rfl)
theorem m_1098 : Cond.methodLink RX8 92 yX8_linksOf ∈ wAll := inA_wA_45 _ (List.mem_of_getElem? (i := 18) rfl)
theorem m_1099 : Cond.initialized RX8 ∈ wAll := inA_wA_45 _ (List.mem_of_getElem? (i := 19) rfl)
theorem m_1100 : Cond.instanceMethod yX8_linksOf ∈ wAll := inA_wA_45 _ (List.mem_of_getElem? (i := 20) rfl)
theorem m_1101 : Cond.selects RX8 yX8_linksOf yX8_linksOf ∈ wAll := inA_wA_45 _ (List.mem_of_getElem? (i := 21) rfl)
theorem m_1102 : Cond.code yX8_init cX8_init 1 none ∈ wAll := inA_wA_45 _ (List.mem_of_getElem? (i := 22) rfl)
theorem m_1103 : Cond.methodLink RX8 5 objectInit ∈ wAll := inA_wA_45 _ (List.mem_of_getElem? (i := 23) rfl)
theorem m_1104 : Cond.fieldLink RX8 11 "CardBowl$Ways" "calls" "[I" ∈ wAll := inA_wA_46 _ (List.mem_of_getElem? (i := 0) rfl)
theorem m_1105 : Cond.fieldLink RX8 15 "CardBowl$Ways" "caller" "I" ∈ wAll := inA_wA_46 _ (List.mem_of_getElem? (i := 1) rfl)
theorem m_1106 : Cond.fieldLink RX8 19 "CardBowl$Ways" "goal" "I" ∈ wAll := inA_wA_46 _ (List.mem_of_getElem? (i := 2) rfl)
theorem m_1107 : Cond.fieldLink RX8 31 "CardBowl$Ways" "queue" "[I" ∈ wAll := inA_wA_46 _ (List.mem_of_getElem? (i := 3) rfl)
theorem m_1108 : Cond.fieldLink RX8 34 "CardBowl$Ways" "latest" "[I" ∈ wAll := inA_wA_46 _ (List.mem_of_getElem? (i := 4) rfl)
theorem m_1109 : Cond.code yX8_linksOf cX8_linksOf 5 (some .int) ∈ wAll := inA_wA_46 _ (List.mem_of_getElem? (i := 5) rfl)
theorem m_1110 : Cond.methodLink RX8 44 yX6_knew ∈ wAll := inA_wA_46 _ (List.mem_of_getElem? (i := 6) rfl)
theorem m_1111 : Cond.code yX8_search cX8_search 13 none ∈ wAll := inA_wA_46 _ (List.mem_of_getElem? (i := 7) rfl)
theorem m_1112 : Cond.methodLink RX8 95 yX8_tell ∈ wAll := inA_wA_46 _ (List.mem_of_getElem? (i := 8) rfl)
theorem m_1113 : Cond.instanceMethod yX8_tell ∈ wAll := inA_wA_46 _ (List.mem_of_getElem? (i := 9) rfl)
theorem m_1114 : Cond.selects RX8 yX8_tell yX8_tell ∈ wAll := inA_wA_46 _ (List.mem_of_getElem? (i := 10) rfl)
theorem m_1115 : Cond.code yX8_seek cX8_seek 5 none ∈ wAll := inA_wA_46 _ (List.mem_of_getElem? (i := 11) rfl)
theorem m_1116 : Cond.fieldLink RX8 37 "CardBowl$Ways" "sought" "Z" ∈ wAll := inA_wA_46 _ (List.mem_of_getElem? (i := 12) rfl)
theorem m_1117 : Cond.fieldLink RX8 41 "CardBowl$Ways" "length" "I" ∈ wAll := inA_wA_46 _ (List.mem_of_getElem? (i := 13) rfl)
theorem m_1118 : Cond.methodLink RX8 50 yX8_everyoneToKnow ∈ wAll := inA_wA_46 _ (List.mem_of_getElem? (i := 14) rfl)
theorem m_1119 : Cond.static yX8_everyoneToKnow ∈ wAll := inA_wA_46 _ (List.mem_of_getElem? (i := 15) rfl)
theorem m_1120 : Cond.methodLink RX8 57 yX8_gather ∈ wAll := inA_wA_46 _ (List.mem_of_getElem? (i := 16) rfl)
theorem m_1121 : Cond.instanceMethod yX8_gather ∈ wAll := inA_wA_46 _ (List.mem_of_getElem? (i := 17) rfl)
theorem m_1122 : Cond.selects RX8 yX8_gather yX8_gather ∈ wAll := inA_wA_46 _ (List.mem_of_getElem? (i := 18) rfl)
theorem m_1123 : Cond.methodLink RX8 61 yX8_search ∈ wAll := inA_wA_46 _ (List.mem_of_getElem? (i := 19) rfl)
theorem m_1124 : Cond.instanceMethod yX8_search ∈ wAll := inA_wA_46 _ (List.mem_of_getElem? (i := 20) rfl)
theorem m_1125 : Cond.selects RX8 yX8_search yX8_search ∈ wAll := inA_wA_46 _ (List.mem_of_getElem? (i := 21) rfl)
theorem m_1126 : Cond.code yX8_tell cX8_tell 6 none ∈ wAll := inA_wA_46 _ (List.mem_of_getElem? (i := 22) rfl)
theorem m_1127 : Cond.code yX9_back cX9_back 3 (some .int) ∈ wAll := inA_wA_46 _ (List.mem_of_getElem? (i := 23) rfl)
theorem m_1128 : Cond.methodLink RX9 271 yX9_isImage ∈ wAll := inA_wA_47 _ (List.mem_of_getElem? (i := 0) rfl)
theorem m_1129 : Cond.static yX9_isImage ∈ wAll := inA_wA_47 _ (List.mem_of_getElem? (i := 1) rfl)
theorem m_1130 : Cond.fieldLink RX9 27 "CardBowl" "images" "[LCardBowl$State;" ∈ wAll := inA_wA_47 _ (List.mem_of_getElem? (i := 2) rfl)
theorem m_1131 : Cond.fieldLink RX9 23 "CardBowl" "state" "LCardBowl$State;" ∈ wAll := inA_wA_47 _ (List.mem_of_getElem? (i := 3) rfl)
theorem m_1132 : Cond.methodLink RX9 302 yX6_copy ∈ wAll := inA_wA_47 _ (List.mem_of_getElem? (i := 4) rfl)
theorem m_1133 : Cond.instanceMethod yX6_copy ∈ wAll := inA_wA_47 _ (List.mem_of_getElem? (i := 5) rfl)
theorem m_1134 : Cond.selects RX6 yX6_copy yX6_copy ∈ wAll := inA_wA_47 _ (List.mem_of_getElem? (i := 6) rfl)
theorem m_1135 : Cond.methodLink RX9 90 yX9_forget ∈ wAll := inA_wA_47 _ (List.mem_of_getElem? (i := 7) rfl)
theorem m_1136 : Cond.instanceMethod yX9_forget ∈ wAll := inA_wA_47 _ (List.mem_of_getElem? (i := 8) rfl)
theorem m_1137 : Cond.selects RX9 yX9_forget yX9_forget ∈ wAll := inA_wA_47 _ (List.mem_of_getElem? (i := 9) rfl)
theorem m_1138 : Cond.code yX9_bars cX9_bars 4 (some .int) ∈ wAll := inA_wA_47 _ (List.mem_of_getElem? (i := 10) rfl)
theorem m_1139 : Cond.methodLink RX9 105 yX9_isDeed ∈ wAll := inA_wA_47 _ (List.mem_of_getElem? (i := 11) rfl)
theorem m_1140 : Cond.instanceMethod yX9_isDeed ∈ wAll := inA_wA_47 _ (List.mem_of_getElem? (i := 12) rfl)
theorem m_1141 : Cond.selects RX9 yX9_isDeed yX9_isDeed ∈ wAll := inA_wA_47 _ (List.mem_of_getElem? (i := 13) rfl)
theorem m_1142 : Cond.methodLink RX9 109 yX6_barrier ∈ wAll := inA_wA_47 _ (List.mem_of_getElem? (i := 14) rfl)
theorem m_1143 : Cond.instanceMethod yX6_barrier ∈ wAll := inA_wA_47 _ (List.mem_of_getElem? (i := 15) rfl)
theorem m_1144 : Cond.selects RX6 yX6_barrier yX6_barrier ∈ wAll := inA_wA_47 _ (List.mem_of_getElem? (i := 16) rfl)
theorem m_1145 : Cond.code yX9_beside cX9_beside 3 (some .int) ∈ wAll := inA_wA_47 _ (List.mem_of_getElem? (i := 17) rfl)
theorem m_1146 : Cond.fieldLink RX9 274 "CardBowl$State" "code" "LCardBowl$Code;" ∈ wAll := inA_wA_47 _ (List.mem_of_getElem? (i := 18) rfl)
theorem m_1147 : Cond.fieldLink RX9 54 "CardBowl" "otherDebts" "LCardBowl$Debts;" ∈ wAll := inA_wA_47 _ (List.mem_of_getElem? (i := 19) rfl)
theorem m_1148 : Cond.fieldLink RX9 58 "CardBowl" "otherKnows" "[I" ∈ wAll := inA_wA_47 _ (List.mem_of_getElem? (i := 20) rfl)
theorem m_1149 : Cond.methodLink RX9 275 yX6_replay ∈ wAll := inA_wA_47 _ (List.mem_of_getElem? (i := 21) rfl)
theorem m_1150 : Cond.instanceMethod yX6_replay ∈ wAll := inA_wA_47 _ (List.mem_of_getElem? (i := 22) rfl)
theorem m_1151 : Cond.selects RX6 yX6_replay yX6_replay ∈ wAll := inA_wA_47 _ (List.mem_of_getElem? (i := 23) rfl)
theorem m_1152 : Cond.fieldLink RX9 279 "CardBowl$Debts" "size" "I" ∈ wAll := inA_wA_48 _ (List.mem_of_getElem? (i := 0) rfl)
theorem m_1153 : Cond.code yX9_count cX9_count 2 (some .int) ∈ wAll := inA_wA_48 _ (List.mem_of_getElem? (i := 1) rfl)
theorem m_1154 : Cond.fieldLink RX9 93 "CardBowl$State" "town" "LCardBowl$Town;" ∈ wAll := inA_wA_48 _ (List.mem_of_getElem? (i := 2) rfl)
theorem m_1155 : Cond.fieldLink RX9 94 "CardBowl$Town" "houses" "I" ∈ wAll := inA_wA_48 _ (List.mem_of_getElem? (i := 3) rfl)
theorem m_1156 : Cond.fieldLink RX9 280 "CardBowl$Code" "lines" "I" ∈ wAll := inA_wA_48 _ (List.mem_of_getElem? (i := 4) rfl)
theorem m_1157 : Cond.fieldLink RX9 102 "CardBowl$State" "day" "I" ∈ wAll := inA_wA_48 _ (List.mem_of_getElem? (i := 5) rfl)
theorem m_1158 : Cond.fieldLink RX9 161 "CardBowl$State" "debts" "LCardBowl$Debts;" ∈ wAll := inA_wA_48 _ (List.mem_of_getElem? (i := 6) rfl)
theorem m_1159 : Cond.methodLink RX9 285 yX1_overdue ∈ wAll := inA_wA_48 _ (List.mem_of_getElem? (i := 7) rfl)
theorem m_1160 : Cond.instanceMethod yX1_overdue ∈ wAll := inA_wA_48 _ (List.mem_of_getElem? (i := 8) rfl)
theorem m_1161 : Cond.selects RX1 yX1_overdue yX1_overdue ∈ wAll := inA_wA_48 _ (List.mem_of_getElem? (i := 9) rfl)
theorem m_1162 : Cond.fieldLink RX9 113 "CardBowl$State" "deeds" "LCardBowl$Deeds;" ∈ wAll := inA_wA_48 _ (List.mem_of_getElem? (i := 10) rfl)
theorem m_1163 : Cond.fieldLink RX9 288 "CardBowl$Deeds" "size" "I" ∈ wAll := inA_wA_48 _ (List.mem_of_getElem? (i := 11) rfl)
theorem m_1164 : Cond.fieldLink RX9 289 "CardBowl$State" "paid" "I" ∈ wAll := inA_wA_48 _ (List.mem_of_getElem? (i := 12) rfl)
theorem m_1165 : Cond.fieldLink RX9 63 "CardBowl" "tapeSize" "I" ∈ wAll := inA_wA_48 _ (List.mem_of_getElem? (i := 13) rfl)
theorem m_1166 : Cond.fieldLink RX9 292 "CardBowl$Town" "introducers" "I" ∈ wAll := inA_wA_48 _ (List.mem_of_getElem? (i := 14) rfl)
theorem m_1167 : Cond.fieldLink RX9 295 "CardBowl$Town" "fresh" "I" ∈ wAll := inA_wA_48 _ (List.mem_of_getElem? (i := 15) rfl)
theorem m_1168 : Cond.methodLink RX9 298 yX9_filledSlots ∈ wAll := inA_wA_48 _ (List.mem_of_getElem? (i := 16) rfl)
theorem m_1169 : Cond.instanceMethod yX9_filledSlots ∈ wAll := inA_wA_48 _ (List.mem_of_getElem? (i := 17) rfl)
theorem m_1170 : Cond.selects RX9 yX9_filledSlots yX9_filledSlots ∈ wAll := inA_wA_48 _ (List.mem_of_getElem? (i := 18) rfl)
theorem m_1171 : Cond.code yX9_days cX9_days 2 (some .int) ∈ wAll := inA_wA_48 _ (List.mem_of_getElem? (i := 19) rfl)
theorem m_1172 : Cond.code yX9_debt cX9_debt 5 (some .int) ∈ wAll := inA_wA_48 _ (List.mem_of_getElem? (i := 20) rfl)
theorem m_1173 : Cond.methodLink RX9 158 yX7_has ∈ wAll := inA_wA_48 _ (List.mem_of_getElem? (i := 21) rfl)
theorem m_1174 : Cond.methodLink RX9 167 yX1_nth ∈ wAll := inA_wA_48 _ (List.mem_of_getElem? (i := 22) rfl)
theorem m_1175 : Cond.fieldLink RX9 170 "CardBowl$Debts" "creditor" "[I" ∈ wAll := inA_wA_48 _ (List.mem_of_getElem? (i := 23) rfl)
theorem m_1176 : Cond.fieldLink RX9 173 "CardBowl$Debts" "kind" "[I" ∈ wAll := inA_wA_49 _ (List.mem_of_getElem? (i := 0) rfl)
theorem m_1177 : Cond.fieldLink RX9 176 "CardBowl$Debts" "due" "[I" ∈ wAll := inA_wA_49 _ (List.mem_of_getElem? (i := 1) rfl)
theorem m_1178 : Cond.fieldLink RX9 179 "CardBowl$Debts" "came" "[I" ∈ wAll := inA_wA_49 _ (List.mem_of_getElem? (i := 2) rfl)
theorem m_1179 : Cond.code yX9_debts cX9_debts 2 (some .int) ∈ wAll := inA_wA_49 _ (List.mem_of_getElem? (i := 3) rfl)
theorem m_1180 : Cond.fieldLink RX9 164 "CardBowl$Debts" "open" "[I" ∈ wAll := inA_wA_49 _ (List.mem_of_getElem? (i := 4) rfl)
theorem m_1181 : Cond.code yX9_does cX9_does 4 (some .int) ∈ wAll := inA_wA_49 _ (List.mem_of_getElem? (i := 5) rfl)
theorem m_1182 : Cond.methodLink RX9 117 yX2_isFull ∈ wAll := inA_wA_49 _ (List.mem_of_getElem? (i := 6) rfl)
theorem m_1183 : Cond.instanceMethod yX2_isFull ∈ wAll := inA_wA_49 _ (List.mem_of_getElem? (i := 7) rfl)
theorem m_1184 : Cond.selects RX2 yX2_isFull yX2_isFull ∈ wAll := inA_wA_49 _ (List.mem_of_getElem? (i := 8) rfl)
theorem m_1185 : Cond.methodLink RX9 123 yX6_act ∈ wAll := inA_wA_49 _ (List.mem_of_getElem? (i := 9) rfl)
theorem m_1186 : Cond.instanceMethod yX6_act ∈ wAll := inA_wA_49 _ (List.mem_of_getElem? (i := 10) rfl)
theorem m_1187 : Cond.selects RX6 yX6_act yX6_act ∈ wAll := inA_wA_49 _ (List.mem_of_getElem? (i := 11) rfl)
theorem m_1188 : Cond.code yX9_done cX9_done 9 (some .int) ∈ wAll := inA_wA_49 _ (List.mem_of_getElem? (i := 12) rfl)
theorem m_1189 : Cond.methodLink RX9 134 yX9_isSlot ∈ wAll := inA_wA_49 _ (List.mem_of_getElem? (i := 13) rfl)
theorem m_1190 : Cond.static yX9_isSlot ∈ wAll := inA_wA_49 _ (List.mem_of_getElem? (i := 14) rfl)
theorem m_1191 : Cond.fieldLink RX9 33 "CardBowl" "slots" "[LCardBowl$Slot;" ∈ wAll := inA_wA_49 _ (List.mem_of_getElem? (i := 15) rfl)
theorem m_1192 : Cond.fieldLink RX9 138 "CardBowl$Slot" "filled" "Z" ∈ wAll := inA_wA_49 _ (List.mem_of_getElem? (i := 16) rfl)
theorem m_1193 : Cond.fieldLink RX9 142 "CardBowl$Slot" "size" "I" ∈ wAll := inA_wA_49 _ (List.mem_of_getElem? (i := 17) rfl)
theorem m_1194 : Cond.methodLink RX9 145 yX5_small ∈ wAll := inA_wA_49 _ (List.mem_of_getElem? (i := 18) rfl)
theorem m_1195 : Cond.methodLink RX9 149 yX9_meet ∈ wAll := inA_wA_49 _ (List.mem_of_getElem? (i := 19) rfl)
theorem m_1196 : Cond.methodLink RX9 152 yX9_does ∈ wAll := inA_wA_49 _ (List.mem_of_getElem? (i := 20) rfl)
theorem m_1197 : Cond.code yX9_drop cX9_drop 5 (some .int) ∈ wAll := inA_wA_49 _ (List.mem_of_getElem? (i := 21) rfl)
theorem m_1198 : Cond.fieldLink RX9 185 "CardBowl$Town" "rank" "[I" ∈ wAll := inA_wA_49 _ (List.mem_of_getElem? (i := 22) rfl)
theorem m_1199 : Cond.methodLink RX9 231 yX6_canDrop ∈ wAll := inA_wA_49 _ (List.mem_of_getElem? (i := 23) rfl)
theorem m_1200 : Cond.instanceMethod yX6_canDrop ∈ wAll := inA_wA_50 _ (List.mem_of_getElem? (i := 0) rfl)
theorem m_1201 : Cond.selects RX6 yX6_canDrop yX6_canDrop ∈ wAll := inA_wA_50 _ (List.mem_of_getElem? (i := 1) rfl)
theorem m_1202 : Cond.code yX9_end cX9_end 2 (some .int) ∈ wAll := inA_wA_50 _ (List.mem_of_getElem? (i := 2) rfl)
theorem m_1203 : Cond.code yX9_fault cX9_fault 2 (some .int) ∈ wAll := inA_wA_50 _ (List.mem_of_getElem? (i := 3) rfl)
theorem m_1204 : Cond.fieldLink RX9 16 "CardBowl" "reader" "LCardBowl$Reader;" ∈ wAll := inA_wA_50 _ (List.mem_of_getElem? (i := 4) rfl)
theorem m_1205 : Cond.fieldLink RX9 75 "CardBowl$Reader" "fault" "I" ∈ wAll := inA_wA_50 _ (List.mem_of_getElem? (i := 5) rfl)
theorem m_1206 : Cond.fieldLink RX9 99 "CardBowl$Reader" "place" "I" ∈ wAll := inA_wA_50 _ (List.mem_of_getElem? (i := 6) rfl)
theorem m_1207 : Cond.code yX9_feed cX9_feed 6 (some .int) ∈ wAll := inA_wA_50 _ (List.mem_of_getElem? (i := 7) rfl)
theorem m_1208 : Cond.methodLink RX9 67 yX9_feedNumber ∈ wAll := inA_wA_50 _ (List.mem_of_getElem? (i := 8) rfl)
theorem m_1209 : Cond.instanceMethod yX9_feedNumber ∈ wAll := inA_wA_50 _ (List.mem_of_getElem? (i := 9) rfl)
theorem m_1210 : Cond.selects RX9 yX9_feedNumber yX9_feedNumber ∈ wAll := inA_wA_50 _ (List.mem_of_getElem? (i := 10) rfl)
theorem m_1211 : Cond.code yX9_feedNumber cX9_feedNumber 3 none ∈ wAll := inA_wA_50 _ (List.mem_of_getElem? (i := 11) rfl)
theorem m_1212 : Cond.fieldLink RX9 9 "CardBowl" "tape" "[B" ∈ wAll := inA_wA_50 _ (List.mem_of_getElem? (i := 12) rfl)
theorem m_1213 : Cond.code yX9_fewest cX9_fewest 2 (some .int) ∈ wAll := inA_wA_50 _ (List.mem_of_getElem? (i := 13) rfl)
theorem m_1214 : Cond.fieldLink RX9 40 "CardBowl" "rounds" "LCardBowl$Rounds;" ∈ wAll := inA_wA_50 _ (List.mem_of_getElem? (i := 14) rfl)
theorem m_1215 : Cond.methodLink RX9 214 yX4_fewestDays ∈ wAll := inA_wA_50 _ (List.mem_of_getElem? (i := 15) rfl)
theorem m_1216 : Cond.instanceMethod yX4_fewestDays ∈ wAll := inA_wA_50 _ (List.mem_of_getElem? (i := 16) rfl)
theorem m_1217 : Cond.selects RX4 yX4_fewestDays yX4_fewestDays ∈ wAll := inA_wA_50 _ (List.mem_of_getElem? (i := 17) rfl)
theorem m_1218 : Cond.code yX9_filledSlots cX9_filledSlots 3 (some .int) ∈ wAll := inA_wA_50 _ (List.mem_of_getElem? (i := 18) rfl)
theorem m_1219 : Cond.code yX9_first cX9_first 6 (some .int) ∈ wAll := inA_wA_50 _ (List.mem_of_getElem? (i := 19) rfl)
theorem m_1220 : Cond.methodLink RX9 182 yX1_overdueTo ∈ wAll := inA_wA_50 _ (List.mem_of_getElem? (i := 20) rfl)
theorem m_1221 : Cond.instanceMethod yX1_overdueTo ∈ wAll := inA_wA_50 _ (List.mem_of_getElem? (i := 21) rfl)
theorem m_1222 : Cond.selects RX1 yX1_overdueTo yX1_overdueTo ∈ wAll := inA_wA_50 _ (List.mem_of_getElem? (i := 22) rfl)
theorem m_1223 : Cond.code yX9_forget cX9_forget 1 none ∈ wAll := inA_wA_50 _ (List.mem_of_getElem? (i := 23) rfl)
theorem m_1224 : Cond.fieldLink RX9 330 "CardBowl$Rounds" "planned" "Z" ∈ wAll := inA_wA_51 _ (List.mem_of_getElem? (i := 0) rfl)
theorem m_1225 : Cond.fieldLink RX9 47 "CardBowl" "ways" "LCardBowl$Ways;" ∈ wAll := inA_wA_51 _ (List.mem_of_getElem? (i := 1) rfl)
theorem m_1226 : Cond.fieldLink RX9 333 "CardBowl$Ways" "sought" "Z" ∈ wAll := inA_wA_51 _ (List.mem_of_getElem? (i := 2) rfl)
theorem m_1227 : Cond.code yX9_house cX9_house 3 (some .int) ∈ wAll := inA_wA_51 _ (List.mem_of_getElem? (i := 3) rfl)
theorem m_1228 : Cond.constant RX9 248 (-2000000000) ∈ wAll := inA_wA_51 _ (List.mem_of_getElem? (i := 4) rfl)
theorem m_1229 : Cond.fieldLink RX9 249 "CardBowl$Town" "x" "[I" ∈ wAll := inA_wA_51 _ (List.mem_of_getElem? (i := 5) rfl)
theorem m_1230 : Cond.fieldLink RX9 252 "CardBowl$Town" "y" "[I" ∈ wAll := inA_wA_51 _ (List.mem_of_getElem? (i := 6) rfl)
theorem m_1231 : Cond.fieldLink RX9 255 "CardBowl$Town" "weekday" "[I" ∈ wAll := inA_wA_51 _ (List.mem_of_getElem? (i := 7) rfl)
theorem m_1232 : Cond.fieldLink RX9 258 "CardBowl$Town" "from" "[I" ∈ wAll := inA_wA_51 _ (List.mem_of_getElem? (i := 8) rfl)
theorem m_1233 : Cond.fieldLink RX9 261 "CardBowl$Town" "to" "[I" ∈ wAll := inA_wA_51 _ (List.mem_of_getElem? (i := 9) rfl)
theorem m_1234 : Cond.fieldLink RX9 264 "CardBowl$Town" "came" "[I" ∈ wAll := inA_wA_51 _ (List.mem_of_getElem? (i := 10) rfl)
theorem m_1235 : Cond.methodLink RX9 265 yX2_callsBy ∈ wAll := inA_wA_51 _ (List.mem_of_getElem? (i := 11) rfl)
theorem m_1236 : Cond.instanceMethod yX2_callsBy ∈ wAll := inA_wA_51 _ (List.mem_of_getElem? (i := 12) rfl)
theorem m_1237 : Cond.selects RX2 yX2_callsBy yX2_callsBy ∈ wAll := inA_wA_51 _ (List.mem_of_getElem? (i := 13) rfl)
theorem m_1238 : Cond.methodLink RX9 268 yX2_callsTo ∈ wAll := inA_wA_51 _ (List.mem_of_getElem? (i := 14) rfl)
theorem m_1239 : Cond.instanceMethod yX2_callsTo ∈ wAll := inA_wA_51 _ (List.mem_of_getElem? (i := 15) rfl)
theorem m_1240 : Cond.selects RX2 yX2_callsTo yX2_callsTo ∈ wAll := inA_wA_51 _ (List.mem_of_getElem? (i := 16) rfl)
theorem m_1241 : Cond.code yX9_init cX9_init 2 none ∈ wAll := inA_wA_51 _ (List.mem_of_getElem? (i := 17) rfl)
theorem m_1242 : Cond.methodLink RX9 1 objectInit ∈ wAll := inA_wA_51 _ (List.mem_of_getElem? (i := 18) rfl)
theorem m_1243 : Cond.classLink RX9 13 RX3 ∈ wAll := inA_wA_51 _ (List.mem_of_getElem? (i := 19) rfl)
theorem m_1244 : Cond.instantiable RX3 10 ∈ wAll := inA_wA_51 _ (List.mem_of_getElem? (i := 20) rfl)
theorem m_1245 : Cond.classLink RX9 20 RX6 ∈ wAll := inA_wA_51 _ (List.mem_of_getElem? (i := 21) rfl)
theorem m_1246 : Cond.instantiable RX6 8 ∈ wAll := inA_wA_51 _ (List.mem_of_getElem? (i := 22) rfl)
theorem m_1247 : Cond.classLink RX9 31 RX5 ∈ wAll := inA_wA_51 _ (List.mem_of_getElem? (i := 23) rfl)
theorem m_1248 : Cond.classLink RX9 37 RX4 ∈ wAll := inA_wA_52 _ (List.mem_of_getElem? (i := 0) rfl)
theorem m_1249 : Cond.instantiable RX4 17 ∈ wAll := inA_wA_52 _ (List.mem_of_getElem? (i := 1) rfl)
theorem m_1250 : Cond.classLink RX9 44 RX8 ∈ wAll := inA_wA_52 _ (List.mem_of_getElem? (i := 2) rfl)
theorem m_1251 : Cond.instantiable RX8 11 ∈ wAll := inA_wA_52 _ (List.mem_of_getElem? (i := 3) rfl)
theorem m_1252 : Cond.classLink RX9 51 RX1 ∈ wAll := inA_wA_52 _ (List.mem_of_getElem? (i := 4) rfl)
theorem m_1253 : Cond.instantiable RX5 4 ∈ wAll := inA_wA_52 _ (List.mem_of_getElem? (i := 5) rfl)
theorem m_1254 : Cond.code yX9_isDeed cX9_isDeed 4 (some .boolean) ∈ wAll := inA_wA_52 _ (List.mem_of_getElem? (i := 6) rfl)
theorem m_1255 : Cond.methodLink RX9 126 yX7_hasPair ∈ wAll := inA_wA_52 _ (List.mem_of_getElem? (i := 7) rfl)
theorem m_1256 : Cond.instanceMethod yX7_hasPair ∈ wAll := inA_wA_52 _ (List.mem_of_getElem? (i := 8) rfl)
theorem m_1257 : Cond.selects RX7 yX7_hasPair yX7_hasPair ∈ wAll := inA_wA_52 _ (List.mem_of_getElem? (i := 9) rfl)
theorem m_1258 : Cond.code yX9_isImage cX9_isImage 1 (some .boolean) ∈ wAll := inA_wA_52 _ (List.mem_of_getElem? (i := 10) rfl)
theorem m_1259 : Cond.code yX9_isOuting cX9_isOuting 3 (some .boolean) ∈ wAll := inA_wA_52 _ (List.mem_of_getElem? (i := 11) rfl)
theorem m_1260 : Cond.code yX9_isSlot cX9_isSlot 1 (some .boolean) ∈ wAll := inA_wA_52 _ (List.mem_of_getElem? (i := 12) rfl)
theorem m_1261 : Cond.code yX9_keep cX9_keep 3 (some .int) ∈ wAll := inA_wA_52 _ (List.mem_of_getElem? (i := 13) rfl)
theorem m_1262 : Cond.code yX9_known cX9_known 3 (some .int) ∈ wAll := inA_wA_52 _ (List.mem_of_getElem? (i := 14) rfl)
theorem m_1263 : Cond.methodLink RX9 155 yX6_knew ∈ wAll := inA_wA_52 _ (List.mem_of_getElem? (i := 15) rfl)
theorem m_1264 : Cond.code yX9_lost cX9_lost 2 (some .int) ∈ wAll := inA_wA_52 _ (List.mem_of_getElem? (i := 16) rfl)
theorem m_1265 : Cond.methodLink RX9 218 yX4_lostBits ∈ wAll := inA_wA_52 _ (List.mem_of_getElem? (i := 17) rfl)
theorem m_1266 : Cond.instanceMethod yX4_lostBits ∈ wAll := inA_wA_52 _ (List.mem_of_getElem? (i := 18) rfl)
theorem m_1267 : Cond.selects RX4 yX4_lostBits yX4_lostBits ∈ wAll := inA_wA_52 _ (List.mem_of_getElem? (i := 19) rfl)
theorem m_1268 : Cond.code yX9_may cX9_may 5 (some .int) ∈ wAll := inA_wA_52 _ (List.mem_of_getElem? (i := 20) rfl)
theorem m_1269 : Cond.methodLink RX9 191 yX9_isOuting ∈ wAll := inA_wA_52 _ (List.mem_of_getElem? (i := 21) rfl)
theorem m_1270 : Cond.instanceMethod yX9_isOuting ∈ wAll := inA_wA_52 _ (List.mem_of_getElem? (i := 22) rfl)
theorem m_1271 : Cond.selects RX9 yX9_isOuting yX9_isOuting ∈ wAll := inA_wA_52 _ (List.mem_of_getElem? (i := 23) rfl)
theorem m_1272 : Cond.methodLink RX9 210 yX4_canWalk ∈ wAll := inA_wA_53 _ (List.mem_of_getElem? (i := 0) rfl)
theorem m_1273 : Cond.instanceMethod yX4_canWalk ∈ wAll := inA_wA_53 _ (List.mem_of_getElem? (i := 1) rfl)
theorem m_1274 : Cond.selects RX4 yX4_canWalk yX4_canWalk ∈ wAll := inA_wA_53 _ (List.mem_of_getElem? (i := 2) rfl)
theorem m_1275 : Cond.code yX9_meet cX9_meet 3 (some .int) ∈ wAll := inA_wA_53 _ (List.mem_of_getElem? (i := 3) rfl)
theorem m_1276 : Cond.methodLink RX9 130 yX6_chance ∈ wAll := inA_wA_53 _ (List.mem_of_getElem? (i := 4) rfl)
theorem m_1277 : Cond.instanceMethod yX6_chance ∈ wAll := inA_wA_53 _ (List.mem_of_getElem? (i := 5) rfl)
theorem m_1278 : Cond.selects RX6 yX6_chance yX6_chance ∈ wAll := inA_wA_53 _ (List.mem_of_getElem? (i := 6) rfl)
theorem m_1279 : Cond.code yX9_over cX9_over 3 (some .int) ∈ wAll := inA_wA_53 _ (List.mem_of_getElem? (i := 7) rfl)
theorem m_1280 : Cond.methodLink RX9 194 yX4_plan ∈ wAll := inA_wA_53 _ (List.mem_of_getElem? (i := 8) rfl)
theorem m_1281 : Cond.instanceMethod yX4_plan ∈ wAll := inA_wA_53 _ (List.mem_of_getElem? (i := 9) rfl)
theorem m_1282 : Cond.selects RX4 yX4_plan yX4_plan ∈ wAll := inA_wA_53 _ (List.mem_of_getElem? (i := 10) rfl)
theorem m_1283 : Cond.fieldLink RX9 207 "CardBowl$Rounds" "bestOver" "I" ∈ wAll := inA_wA_53 _ (List.mem_of_getElem? (i := 11) rfl)
theorem m_1284 : Cond.code yX9_owes cX9_owes 4 (some .int) ∈ wAll := inA_wA_53 _ (List.mem_of_getElem? (i := 12) rfl)
theorem m_1285 : Cond.methodLink RX9 188 yX6_wouldMake ∈ wAll := inA_wA_53 _ (List.mem_of_getElem? (i := 13) rfl)
theorem m_1286 : Cond.instanceMethod yX6_wouldMake ∈ wAll := inA_wA_53 _ (List.mem_of_getElem? (i := 14) rfl)
theorem m_1287 : Cond.selects RX6 yX6_wouldMake yX6_wouldMake ∈ wAll := inA_wA_53 _ (List.mem_of_getElem? (i := 15) rfl)
theorem m_1288 : Cond.code yX9_paste cX9_paste 8 (some .int) ∈ wAll := inA_wA_53 _ (List.mem_of_getElem? (i := 16) rfl)
theorem m_1289 : Cond.fieldLink RX9 318 "CardBowl$Slot" "width" "I" ∈ wAll := inA_wA_53 _ (List.mem_of_getElem? (i := 17) rfl)
theorem m_1290 : Cond.methodLink RX9 321 yX5_hasRun ∈ wAll := inA_wA_53 _ (List.mem_of_getElem? (i := 18) rfl)
theorem m_1291 : Cond.instanceMethod yX5_hasRun ∈ wAll := inA_wA_53 _ (List.mem_of_getElem? (i := 19) rfl)
theorem m_1292 : Cond.selects RX5 yX5_hasRun yX5_hasRun ∈ wAll := inA_wA_53 _ (List.mem_of_getElem? (i := 20) rfl)
theorem m_1293 : Cond.fieldLink RX9 310 "CardBowl$Slot" "numbers" "[J" ∈ wAll := inA_wA_53 _ (List.mem_of_getElem? (i := 21) rfl)
theorem m_1294 : Cond.methodLink RX9 324 arraycopyName ∈ wAll := inA_wA_53 _ (List.mem_of_getElem? (i := 22) rfl)
theorem m_1295 : Cond.code yX9_path cX9_path 4 (some .int) ∈ wAll := inA_wA_53 _ (List.mem_of_getElem? (i := 23) rfl)
theorem m_1296 : Cond.methodLink RX9 221 yX8_seek ∈ wAll := inA_wA_54 _ (List.mem_of_getElem? (i := 0) rfl)
theorem m_1297 : Cond.instanceMethod yX8_seek ∈ wAll := inA_wA_54 _ (List.mem_of_getElem? (i := 1) rfl)
theorem m_1298 : Cond.selects RX8 yX8_seek yX8_seek ∈ wAll := inA_wA_54 _ (List.mem_of_getElem? (i := 2) rfl)
theorem m_1299 : Cond.fieldLink RX9 224 "CardBowl$Ways" "length" "I" ∈ wAll := inA_wA_54 _ (List.mem_of_getElem? (i := 3) rfl)
theorem m_1300 : Cond.fieldLink RX9 225 "CardBowl$Ways" "calls" "[I" ∈ wAll := inA_wA_54 _ (List.mem_of_getElem? (i := 4) rfl)
theorem m_1301 : Cond.code yX9_reach cX9_reach 2 (some .int) ∈ wAll := inA_wA_54 _ (List.mem_of_getElem? (i := 5) rfl)
theorem m_1302 : Cond.methodLink RX9 228 yX6_hanging ∈ wAll := inA_wA_54 _ (List.mem_of_getElem? (i := 6) rfl)
theorem m_1303 : Cond.code yX9_ring cX9_ring 2 (some .int) ∈ wAll := inA_wA_54 _ (List.mem_of_getElem? (i := 7) rfl)
theorem m_1304 : Cond.methodLink RX9 237 yX6_followCalls ∈ wAll := inA_wA_54 _ (List.mem_of_getElem? (i := 8) rfl)
theorem m_1305 : Cond.instanceMethod yX6_followCalls ∈ wAll := inA_wA_54 _ (List.mem_of_getElem? (i := 9) rfl)
theorem m_1306 : Cond.selects RX6 yX6_followCalls yX6_followCalls ∈ wAll := inA_wA_54 _ (List.mem_of_getElem? (i := 10) rfl)
theorem m_1307 : Cond.methodLink RX9 240 yX6_ringBits ∈ wAll := inA_wA_54 _ (List.mem_of_getElem? (i := 11) rfl)
theorem m_1308 : Cond.instanceMethod yX6_ringBits ∈ wAll := inA_wA_54 _ (List.mem_of_getElem? (i := 12) rfl)
theorem m_1309 : Cond.selects RX6 yX6_ringBits yX6_ringBits ∈ wAll := inA_wA_54 _ (List.mem_of_getElem? (i := 13) rfl)
theorem m_1310 : Cond.code yX9_rings cX9_rings 4 (some .int) ∈ wAll := inA_wA_54 _ (List.mem_of_getElem? (i := 14) rfl)
theorem m_1311 : Cond.methodLink RX9 243 yJ6_numberOfTrailingZeros_0f7a4 ∈ wAll := inA_wA_54 _ (List.mem_of_getElem? (i := 15) rfl)
theorem m_1312 : Cond.code yX9_round cX9_round 4 (some .int) ∈ wAll := inA_wA_54 _ (List.mem_of_getElem? (i := 16) rfl)
theorem m_1313 : Cond.fieldLink RX9 201 "CardBowl$Rounds" "length" "I" ∈ wAll := inA_wA_54 _ (List.mem_of_getElem? (i := 17) rfl)
theorem m_1314 : Cond.fieldLink RX9 204 "CardBowl$Rounds" "order" "[I" ∈ wAll := inA_wA_54 _ (List.mem_of_getElem? (i := 18) rfl)
theorem m_1315 : Cond.code yX9_row cX9_row 4 (some .int) ∈ wAll := inA_wA_54 _ (List.mem_of_getElem? (i := 19) rfl)
theorem m_1316 : Cond.methodLink RX9 306 yX5_lay ∈ wAll := inA_wA_54 _ (List.mem_of_getElem? (i := 20) rfl)
theorem m_1317 : Cond.instanceMethod yX5_lay ∈ wAll := inA_wA_54 _ (List.mem_of_getElem? (i := 21) rfl)
theorem m_1318 : Cond.selects RX5 yX5_lay yX5_lay ∈ wAll := inA_wA_54 _ (List.mem_of_getElem? (i := 22) rfl)
theorem m_1319 : Cond.code yX9_slights cX9_slights 2 (some .int) ∈ wAll := inA_wA_54 _ (List.mem_of_getElem? (i := 23) rfl)
theorem m_1320 : Cond.code yX9_soon cX9_soon 3 (some .int) ∈ wAll := inA_wA_55 _ (List.mem_of_getElem? (i := 0) rfl)
theorem m_1321 : Cond.code yX9_tie cX9_tie 3 (some .int) ∈ wAll := inA_wA_55 _ (List.mem_of_getElem? (i := 1) rfl)
theorem m_1322 : Cond.methodLink RX9 234 yX6_holdsTogether ∈ wAll := inA_wA_55 _ (List.mem_of_getElem? (i := 2) rfl)
theorem m_1323 : Cond.code yX9_town cX9_town 1 (some .int) ∈ wAll := inA_wA_55 _ (List.mem_of_getElem? (i := 3) rfl)
theorem m_1324 : Cond.methodLink RX9 71 yX3_read ∈ wAll := inA_wA_55 _ (List.mem_of_getElem? (i := 4) rfl)
theorem m_1325 : Cond.instanceMethod yX3_read ∈ wAll := inA_wA_55 _ (List.mem_of_getElem? (i := 5) rfl)
theorem m_1326 : Cond.selects RX3 yX3_read yX3_read ∈ wAll := inA_wA_55 _ (List.mem_of_getElem? (i := 6) rfl)
theorem m_1327 : Cond.fieldLink RX9 78 "CardBowl$Reader" "town" "LCardBowl$Town;" ∈ wAll := inA_wA_55 _ (List.mem_of_getElem? (i := 7) rfl)
theorem m_1328 : Cond.fieldLink RX9 82 "CardBowl$Reader" "code" "LCardBowl$Code;" ∈ wAll := inA_wA_55 _ (List.mem_of_getElem? (i := 8) rfl)
theorem m_1329 : Cond.methodLink RX9 86 yX6_begin ∈ wAll := inA_wA_55 _ (List.mem_of_getElem? (i := 9) rfl)
theorem m_1330 : Cond.instanceMethod yX6_begin ∈ wAll := inA_wA_55 _ (List.mem_of_getElem? (i := 10) rfl)
theorem m_1331 : Cond.selects RX6 yX6_begin yX6_begin ∈ wAll := inA_wA_55 _ (List.mem_of_getElem? (i := 11) rfl)
theorem m_1332 : Cond.code yX9_worth cX9_worth 3 (some .int) ∈ wAll := inA_wA_55 _ (List.mem_of_getElem? (i := 12) rfl)
theorem m_1333 : Cond.fieldLink RX9 198 "CardBowl$Rounds" "bestWorth" "I" ∈ wAll := inA_wA_55 _ (List.mem_of_getElem? (i := 13) rfl)
theorem m_1334 : Cond.code yX9_write cX9_write 6 (some .int) ∈ wAll := inA_wA_55 _ (List.mem_of_getElem? (i := 14) rfl)
theorem m_1335 : Cond.methodLink RX9 314 yX5_cut ∈ wAll := inA_wA_55 _ (List.mem_of_getElem? (i := 15) rfl)
theorem m_1336 : Cond.instanceMethod yX5_cut ∈ wAll := inA_wA_55 _ (List.mem_of_getElem? (i := 16) rfl)
theorem m_1337 : Cond.selects RX5 yX5_cut yX5_cut ∈ wAll := inA_wA_55 _ (List.mem_of_getElem? (i := 17) rfl)
theorem m_1338 : Cond.instanceMethod yX0_init ∈ wAll := inA_wA_55 _ (List.mem_of_getElem? (i := 18) rfl)
theorem m_1339 : Cond.instanceMethod yX1_init ∈ wAll := inA_wA_55 _ (List.mem_of_getElem? (i := 19) rfl)
theorem m_1340 : Cond.instanceMethod yX2_init ∈ wAll := inA_wA_55 _ (List.mem_of_getElem? (i := 20) rfl)
theorem m_1341 : Cond.instanceMethod yX3_init ∈ wAll := inA_wA_55 _ (List.mem_of_getElem? (i := 21) rfl)
theorem m_1342 : Cond.instanceMethod yX4_init ∈ wAll := inA_wA_55 _ (List.mem_of_getElem? (i := 22) rfl)
theorem m_1343 : Cond.instanceMethod yX5_init ∈ wAll := inA_wA_55 _ (List.mem_of_getElem? (i := 23) rfl)
theorem m_1344 : Cond.instanceMethod yX6_init ∈ wAll := inA_wA_56 _ (List.mem_of_getElem? (i := 0) rfl)
theorem m_1345 : Cond.instanceMethod yX7_init ∈ wAll := inA_wA_56 _ (List.mem_of_getElem? (i := 1) rfl)
theorem m_1346 : Cond.instanceMethod yX8_init ∈ wAll := inA_wA_56 _ (List.mem_of_getElem? (i := 2) rfl)
theorem tb_1 : ∀ w ∈ tables_1_1, w ∈ lw_tbl := fun w h => List.mem_append_right _ (List.mem_append_left _ h)
theorem tb_2 : ∀ w ∈ tables_1_2, w ∈ lw_tbl := fun w h => List.mem_append_right _ (List.mem_append_right _ (List.mem_append_left _ h))
theorem tb_3 : ∀ w ∈ tables_1_3, w ∈ lw_tbl := fun w h => List.mem_append_right _ (List.mem_append_right _ (List.mem_append_right _ (List.mem_append_left _ h)))
theorem tb_4 : ∀ w ∈ tables_1_4, w ∈ lw_tbl := fun w h => List.mem_append_right _ (List.mem_append_right _ (List.mem_append_right _ (List.mem_append_right _ (List.mem_append_left _ h))))
theorem tb_5 : ∀ w ∈ tables_1_5, w ∈ lw_tbl := fun w h => List.mem_append_right _ (List.mem_append_right _ (List.mem_append_right _ (List.mem_append_right _ (List.mem_append_right _ (List.mem_append_left _ h)))))
theorem tb_6 : ∀ w ∈ tables_1_6, w ∈ lw_tbl := fun w h => List.mem_append_right _ (List.mem_append_right _ (List.mem_append_right _ (List.mem_append_right _ (List.mem_append_right _ (List.mem_append_right _ (List.mem_append_left _ h))))))
theorem tb_7 : ∀ w ∈ tables_1_7, w ∈ lw_tbl := fun w h => List.mem_append_right _ (List.mem_append_right _ (List.mem_append_right _ (List.mem_append_right _ (List.mem_append_right _ (List.mem_append_right _ (List.mem_append_right _ (List.mem_append_left _ h)))))))
theorem tb_8 : ∀ w ∈ tables_1_8, w ∈ lw_tbl := fun w h => List.mem_append_right _ (List.mem_append_right _ (List.mem_append_right _ (List.mem_append_right _ (List.mem_append_right _ (List.mem_append_right _ (List.mem_append_right _ (List.mem_append_right _ (h))))))))
theorem mem_r {big ws : List Cond} (ps : List Nat) (hp : ws = ps.filterMap (fun i => big[i]?)) : ∀ w ∈ ws, w ∈ big := by
  intro w hw
  rw [hp] at hw
  obtain ⟨i, -, hi⟩ := List.mem_filterMap.mp hw
  exact List.mem_of_getElem? hi
set_option maxRecDepth 20000 in
theorem t_0 : Cond.code yJ0_charAt_5068e cJ0_charAt_5068e 2 (some .char) ∈ lw_tbl := tb_3 _ (List.mem_of_getElem? (i := 59) rfl)
set_option maxRecDepth 20000 in
theorem t_1 : Cond.methodLink RJ0 492 yJ0_isLatin1_aae02 ∈ lw_tbl := tb_3 _ (List.mem_of_getElem? (i := 60) rfl)
set_option maxRecDepth 20000 in
theorem t_2 : Cond.initialized RJ0 ∈ lw_tbl := tb_1 _ (List.mem_of_getElem? (i := 14) rfl)
set_option maxRecDepth 20000 in
theorem t_3 : Cond.instanceMethod yJ0_isLatin1_aae02 ∈ lw_tbl := tb_3 _ (List.mem_of_getElem? (i := 61) rfl)
set_option maxRecDepth 20000 in
theorem t_4 : Cond.selects RJ0 yJ0_isLatin1_aae02 yJ0_isLatin1_aae02 ∈ lw_tbl := tb_3 _ (List.mem_of_getElem? (i := 62) rfl)
set_option maxRecDepth 20000 in
theorem t_5 : Cond.fieldLink RJ0 9 "java/lang/String" "value" "[B" ∈ lw_tbl := tb_8 _ (List.mem_of_getElem? (i := 33) rfl)
set_option maxRecDepth 20000 in
theorem t_6 : Cond.methodLink RJ0 495 yJ1_charAt_3b067 ∈ lw_tbl := tb_3 _ (List.mem_of_getElem? (i := 64) rfl)
set_option maxRecDepth 20000 in
theorem t_7 : Cond.initialized RJ1 ∈ lw_tbl := tb_1 _ (List.mem_of_getElem? (i := 15) rfl)
set_option maxRecDepth 20000 in
theorem t_8 : Cond.static yJ1_charAt_3b067 ∈ lw_tbl := tb_3 _ (List.mem_of_getElem? (i := 65) rfl)
set_option maxRecDepth 20000 in
theorem t_9 : Cond.code yJ0_checkIndex_df160 cJ0_checkIndex_df160 2 none ∈ lw_tbl := tb_3 _ (List.mem_of_getElem? (i := 69) rfl)
set_option maxRecDepth 20000 in
theorem t_10 : Cond.fieldLink RJ0 1053 "jdk/internal/util/Preconditions" "SIOOBE_FORMATTER" "Ljava/util/function/BiFunction;" ∈ lw_tbl := tb_3 _ (List.mem_of_getElem? (i := 70) rfl)
set_option maxRecDepth 20000 in
theorem t_11 : Cond.methodLink RJ0 1059 yJ3_checkIndex_8e157 ∈ lw_tbl := tb_3 _ (List.mem_of_getElem? (i := 72) rfl)
set_option maxRecDepth 20000 in
theorem t_12 : Cond.initialized RJ3 ∈ lw_tbl := tb_1 _ (List.mem_of_getElem? (i := 16) rfl)
set_option maxRecDepth 20000 in
theorem t_13 : Cond.static yJ3_checkIndex_8e157 ∈ lw_tbl := tb_3 _ (List.mem_of_getElem? (i := 73) rfl)
set_option maxRecDepth 20000 in
theorem t_14 : Cond.code yJ0_coder_7d493 cJ0_coder_7d493 1 (some .byte) ∈ lw_tbl := tb_3 _ (List.mem_of_getElem? (i := 53) rfl)
set_option maxRecDepth 20000 in
theorem t_15 : Cond.fieldLink RJ0 38 "java/lang/String" "COMPACT_STRINGS" "Z" ∈ lw_tbl := tb_3 _ (List.mem_of_getElem? (i := 54) rfl)
set_option maxRecDepth 20000 in
theorem t_16 : Cond.fieldLink RJ0 15 "java/lang/String" "coder" "B" ∈ lw_tbl := tb_8 _ (List.mem_of_getElem? (i := 34) rfl)
set_option maxRecDepth 20000 in
theorem t_17 : Cond.code yJ0_isLatin1_aae02 cJ0_isLatin1_aae02 1 (some .boolean) ∈ lw_tbl := tb_3 _ (List.mem_of_getElem? (i := 63) rfl)
set_option maxRecDepth 20000 in
theorem t_18 : Cond.code yJ0_length_8abf5 cJ0_length_8abf5 1 (some .int) ∈ lw_tbl := tb_3 _ (List.mem_of_getElem? (i := 49) rfl)
set_option maxRecDepth 20000 in
theorem t_19 : Cond.methodLink RJ0 335 yJ0_coder_7d493 ∈ lw_tbl := tb_3 _ (List.mem_of_getElem? (i := 50) rfl)
set_option maxRecDepth 20000 in
theorem t_20 : Cond.instanceMethod yJ0_coder_7d493 ∈ lw_tbl := tb_3 _ (List.mem_of_getElem? (i := 51) rfl)
set_option maxRecDepth 20000 in
theorem t_21 : Cond.selects RJ0 yJ0_coder_7d493 yJ0_coder_7d493 ∈ lw_tbl := tb_3 _ (List.mem_of_getElem? (i := 52) rfl)
set_option maxRecDepth 20000 in
theorem t_22 : Cond.code yJ1_charAt_3b067 cJ1_charAt_3b067 2 (some .char) ∈ lw_tbl := tb_3 _ (List.mem_of_getElem? (i := 66) rfl)
set_option maxRecDepth 20000 in
theorem t_23 : Cond.methodLink RJ1 9 yJ0_checkIndex_df160 ∈ lw_tbl := tb_3 _ (List.mem_of_getElem? (i := 67) rfl)
set_option maxRecDepth 20000 in
theorem t_24 : Cond.static yJ0_checkIndex_df160 ∈ lw_tbl := tb_3 _ (List.mem_of_getElem? (i := 68) rfl)
set_option maxRecDepth 20000 in
theorem t_25 : Cond.code yJ3_checkIndex_8e157 cJ3_checkIndex_8e157 3 (some .int) ∈ lw_tbl := tb_3 _ (List.mem_of_getElem? (i := 74) rfl)
set_option maxRecDepth 20000 in
theorem t_26 : Cond.code yJ6_bitCount_0f7a4 cJ6_bitCount_0f7a4 1 (some .int) ∈ lw_tbl := tb_3 _ (List.mem_of_getElem? (i := 222) rfl)
set_option maxRecDepth 20000 in
theorem t_27 : Cond.constant RJ6 265 (1431655765) ∈ lw_tbl := tb_3 _ (List.mem_of_getElem? (i := 223) rfl)
set_option maxRecDepth 20000 in
theorem t_28 : Cond.constant RJ6 266 (858993459) ∈ lw_tbl := tb_3 _ (List.mem_of_getElem? (i := 224) rfl)
set_option maxRecDepth 20000 in
theorem t_29 : Cond.constant RJ6 267 (252645135) ∈ lw_tbl := tb_3 _ (List.mem_of_getElem? (i := 225) rfl)
set_option maxRecDepth 20000 in
theorem t_30 : Cond.code yJ6_numberOfTrailingZeros_0f7a4 cJ6_numberOfTrailingZeros_0f7a4 2 (some .int) ∈ lw_tbl := tb_4 _ (List.mem_of_getElem? (i := 176) rfl)
set_option maxRecDepth 20000 in
theorem t_31 : Cond.constant RJ6 264 (65536) ∈ lw_tbl := tb_4 _ (List.mem_of_getElem? (i := 177) rfl)
set_option maxRecDepth 20000 in
theorem t_32 : Cond.code yJ7_fill_53178 cJ7_fill_53178 4 none ∈ lw_tbl := tb_3 _ (List.mem_of_getElem? (i := 23) rfl)
set_option maxRecDepth 20000 in
theorem t_33 : Cond.code yJ7_fill_d0a16 cJ7_fill_d0a16 5 none ∈ lw_tbl := tb_5 _ (List.mem_of_getElem? (i := 149) rfl)
set_option maxRecDepth 20000 in
theorem t_34 : Cond.classLink RL 7 RX9 ∈ lw_tbl := tb_1 _ (List.mem_of_getElem? (i := 20) rfl)
set_option maxRecDepth 20000 in
theorem t_35 : Cond.instantiable RX9 10 ∈ lw_tbl := tb_1 _ (List.mem_of_getElem? (i := 21) rfl)
set_option maxRecDepth 20000 in
theorem t_36 : Cond.initialized RX9 ∈ lw_tbl := tb_1 _ (List.mem_of_getElem? (i := 1) rfl)
set_option maxRecDepth 20000 in
theorem t_37 : Cond.methodLink RL 9 yX9_init ∈ lw_tbl := tb_1 _ (List.mem_of_getElem? (i := 22) rfl)
set_option maxRecDepth 20000 in
theorem t_38 : Cond.instanceMethod yX9_init ∈ lw_tbl := tb_1 _ (List.mem_of_getElem? (i := 23) rfl)
set_option maxRecDepth 20000 in
theorem t_39 : Cond.classLink RL 10 RX10 ∈ lw_tbl := tb_5 _ (List.mem_of_getElem? (i := 167) rfl)
set_option maxRecDepth 20000 in
theorem t_40 : Cond.instantiable RX10 41 ∈ lw_tbl := tb_5 _ (List.mem_of_getElem? (i := 168) rfl)
set_option maxRecDepth 20000 in
theorem t_41 : Cond.initialized RX10 ∈ lw_tbl := tb_1 _ (List.mem_of_getElem? (i := 11) rfl)
set_option maxRecDepth 20000 in
theorem t_42 : Cond.methodLink RL 12 yX10_init ∈ lw_tbl := tb_5 _ (List.mem_of_getElem? (i := 169) rfl)
set_option maxRecDepth 20000 in
theorem t_43 : Cond.instanceMethod yX10_init ∈ lw_tbl := tb_5 _ (List.mem_of_getElem? (i := 170) rfl)
set_option maxRecDepth 20000 in
theorem t_44 : Cond.methodLink RL 13 yX9_feed ∈ lw_tbl := tb_2 _ (List.mem_of_getElem? (i := 234) rfl)
set_option maxRecDepth 20000 in
theorem t_45 : Cond.instanceMethod yX9_feed ∈ lw_tbl := tb_2 _ (List.mem_of_getElem? (i := 235) rfl)
set_option maxRecDepth 20000 in
theorem t_46 : Cond.selects RX9 yX9_feed yX9_feed ∈ lw_tbl := tb_2 _ (List.mem_of_getElem? (i := 236) rfl)
set_option maxRecDepth 20000 in
theorem t_47 : Cond.methodLink RL 17 yX10_feed ∈ lw_tbl := tb_6 _ (List.mem_of_getElem? (i := 70) rfl)
set_option maxRecDepth 20000 in
theorem t_48 : Cond.instanceMethod yX10_feed ∈ lw_tbl := tb_6 _ (List.mem_of_getElem? (i := 71) rfl)
set_option maxRecDepth 20000 in
theorem t_49 : Cond.selects RX10 yX10_feed yX10_feed ∈ lw_tbl := tb_6 _ (List.mem_of_getElem? (i := 72) rfl)
set_option maxRecDepth 20000 in
theorem t_50 : Cond.methodLink RL 18 yX9_end ∈ lw_tbl := tb_3 _ (List.mem_of_getElem? (i := 2) rfl)
set_option maxRecDepth 20000 in
theorem t_51 : Cond.instanceMethod yX9_end ∈ lw_tbl := tb_3 _ (List.mem_of_getElem? (i := 3) rfl)
set_option maxRecDepth 20000 in
theorem t_52 : Cond.selects RX9 yX9_end yX9_end ∈ lw_tbl := tb_3 _ (List.mem_of_getElem? (i := 4) rfl)
set_option maxRecDepth 20000 in
theorem t_53 : Cond.methodLink RL 22 yX10_end ∈ lw_tbl := tb_6 _ (List.mem_of_getElem? (i := 74) rfl)
set_option maxRecDepth 20000 in
theorem t_54 : Cond.instanceMethod yX10_end ∈ lw_tbl := tb_6 _ (List.mem_of_getElem? (i := 75) rfl)
set_option maxRecDepth 20000 in
theorem t_55 : Cond.selects RX10 yX10_end yX10_end ∈ lw_tbl := tb_6 _ (List.mem_of_getElem? (i := 76) rfl)
set_option maxRecDepth 20000 in
theorem t_56 : Cond.methodLink RL 23 yX9_town ∈ lw_tbl := tb_3 _ (List.mem_of_getElem? (i := 6) rfl)
set_option maxRecDepth 20000 in
theorem t_57 : Cond.instanceMethod yX9_town ∈ lw_tbl := tb_3 _ (List.mem_of_getElem? (i := 7) rfl)
set_option maxRecDepth 20000 in
theorem t_58 : Cond.selects RX9 yX9_town yX9_town ∈ lw_tbl := tb_3 _ (List.mem_of_getElem? (i := 8) rfl)
set_option maxRecDepth 20000 in
theorem t_59 : Cond.methodLink RL 27 yX10_town ∈ lw_tbl := tb_6 _ (List.mem_of_getElem? (i := 82) rfl)
set_option maxRecDepth 20000 in
theorem t_60 : Cond.instanceMethod yX10_town ∈ lw_tbl := tb_6 _ (List.mem_of_getElem? (i := 83) rfl)
set_option maxRecDepth 20000 in
theorem t_61 : Cond.selects RX10 yX10_town yX10_town ∈ lw_tbl := tb_6 _ (List.mem_of_getElem? (i := 84) rfl)
set_option maxRecDepth 20000 in
theorem t_62 : Cond.methodLink RL 28 yX9_fault ∈ lw_tbl := tb_3 _ (List.mem_of_getElem? (i := 176) rfl)
set_option maxRecDepth 20000 in
theorem t_63 : Cond.instanceMethod yX9_fault ∈ lw_tbl := tb_3 _ (List.mem_of_getElem? (i := 177) rfl)
set_option maxRecDepth 20000 in
theorem t_64 : Cond.selects RX9 yX9_fault yX9_fault ∈ lw_tbl := tb_3 _ (List.mem_of_getElem? (i := 178) rfl)
set_option maxRecDepth 20000 in
theorem t_65 : Cond.methodLink RL 31 yX10_fault ∈ lw_tbl := tb_6 _ (List.mem_of_getElem? (i := 78) rfl)
set_option maxRecDepth 20000 in
theorem t_66 : Cond.instanceMethod yX10_fault ∈ lw_tbl := tb_6 _ (List.mem_of_getElem? (i := 79) rfl)
set_option maxRecDepth 20000 in
theorem t_67 : Cond.selects RX10 yX10_fault yX10_fault ∈ lw_tbl := tb_6 _ (List.mem_of_getElem? (i := 80) rfl)
set_option maxRecDepth 20000 in
theorem t_68 : Cond.methodLink RL 32 yX9_days ∈ lw_tbl := tb_3 _ (List.mem_of_getElem? (i := 180) rfl)
set_option maxRecDepth 20000 in
theorem t_69 : Cond.instanceMethod yX9_days ∈ lw_tbl := tb_3 _ (List.mem_of_getElem? (i := 181) rfl)
set_option maxRecDepth 20000 in
theorem t_70 : Cond.selects RX9 yX9_days yX9_days ∈ lw_tbl := tb_3 _ (List.mem_of_getElem? (i := 182) rfl)
set_option maxRecDepth 20000 in
theorem t_71 : Cond.methodLink RL 35 yX10_days ∈ lw_tbl := tb_6 _ (List.mem_of_getElem? (i := 208) rfl)
set_option maxRecDepth 20000 in
theorem t_72 : Cond.instanceMethod yX10_days ∈ lw_tbl := tb_6 _ (List.mem_of_getElem? (i := 209) rfl)
set_option maxRecDepth 20000 in
theorem t_73 : Cond.selects RX10 yX10_days yX10_days ∈ lw_tbl := tb_6 _ (List.mem_of_getElem? (i := 210) rfl)
set_option maxRecDepth 20000 in
theorem t_74 : Cond.methodLink RL 36 yX9_bars ∈ lw_tbl := tb_3 _ (List.mem_of_getElem? (i := 184) rfl)
set_option maxRecDepth 20000 in
theorem t_75 : Cond.instanceMethod yX9_bars ∈ lw_tbl := tb_3 _ (List.mem_of_getElem? (i := 185) rfl)
set_option maxRecDepth 20000 in
theorem t_76 : Cond.selects RX9 yX9_bars yX9_bars ∈ lw_tbl := tb_3 _ (List.mem_of_getElem? (i := 186) rfl)
set_option maxRecDepth 20000 in
theorem t_77 : Cond.methodLink RL 40 yX10_bars ∈ lw_tbl := tb_6 _ (List.mem_of_getElem? (i := 217) rfl)
set_option maxRecDepth 20000 in
theorem t_78 : Cond.instanceMethod yX10_bars ∈ lw_tbl := tb_6 _ (List.mem_of_getElem? (i := 218) rfl)
set_option maxRecDepth 20000 in
theorem t_79 : Cond.selects RX10 yX10_bars yX10_bars ∈ lw_tbl := tb_6 _ (List.mem_of_getElem? (i := 219) rfl)
set_option maxRecDepth 20000 in
theorem t_80 : Cond.methodLink RL 41 yX9_does ∈ lw_tbl := tb_3 _ (List.mem_of_getElem? (i := 230) rfl)
set_option maxRecDepth 20000 in
theorem t_81 : Cond.instanceMethod yX9_does ∈ lw_tbl := tb_3 _ (List.mem_of_getElem? (i := 231) rfl)
set_option maxRecDepth 20000 in
theorem t_82 : Cond.selects RX9 yX9_does yX9_does ∈ lw_tbl := tb_3 _ (List.mem_of_getElem? (i := 232) rfl)
set_option maxRecDepth 20000 in
theorem t_83 : Cond.methodLink RL 44 yX10_does ∈ lw_tbl := tb_7 _ (List.mem_of_getElem? (i := 23) rfl)
set_option maxRecDepth 20000 in
theorem t_84 : Cond.instanceMethod yX10_does ∈ lw_tbl := tb_7 _ (List.mem_of_getElem? (i := 24) rfl)
set_option maxRecDepth 20000 in
theorem t_85 : Cond.selects RX10 yX10_does yX10_does ∈ lw_tbl := tb_7 _ (List.mem_of_getElem? (i := 25) rfl)
set_option maxRecDepth 20000 in
theorem t_86 : Cond.methodLink RL 45 yX9_meet ∈ lw_tbl := tb_4 _ (List.mem_of_getElem? (i := 56) rfl)
set_option maxRecDepth 20000 in
theorem t_87 : Cond.instanceMethod yX9_meet ∈ lw_tbl := tb_4 _ (List.mem_of_getElem? (i := 57) rfl)
set_option maxRecDepth 20000 in
theorem t_88 : Cond.selects RX9 yX9_meet yX9_meet ∈ lw_tbl := tb_4 _ (List.mem_of_getElem? (i := 58) rfl)
set_option maxRecDepth 20000 in
theorem t_89 : Cond.methodLink RL 49 yX10_meet ∈ lw_tbl := tb_7 _ (List.mem_of_getElem? (i := 77) rfl)
set_option maxRecDepth 20000 in
theorem t_90 : Cond.instanceMethod yX10_meet ∈ lw_tbl := tb_7 _ (List.mem_of_getElem? (i := 78) rfl)
set_option maxRecDepth 20000 in
theorem t_91 : Cond.selects RX10 yX10_meet yX10_meet ∈ lw_tbl := tb_7 _ (List.mem_of_getElem? (i := 79) rfl)
set_option maxRecDepth 20000 in
theorem t_92 : Cond.methodLink RL 50 yX9_done ∈ lw_tbl := tb_4 _ (List.mem_of_getElem? (i := 64) rfl)
set_option maxRecDepth 20000 in
theorem t_93 : Cond.instanceMethod yX9_done ∈ lw_tbl := tb_4 _ (List.mem_of_getElem? (i := 65) rfl)
set_option maxRecDepth 20000 in
theorem t_94 : Cond.selects RX9 yX9_done yX9_done ∈ lw_tbl := tb_4 _ (List.mem_of_getElem? (i := 66) rfl)
set_option maxRecDepth 20000 in
theorem t_95 : Cond.methodLink RL 53 yX10_done ∈ lw_tbl := tb_7 _ (List.mem_of_getElem? (i := 81) rfl)
set_option maxRecDepth 20000 in
theorem t_96 : Cond.instanceMethod yX10_done ∈ lw_tbl := tb_7 _ (List.mem_of_getElem? (i := 82) rfl)
set_option maxRecDepth 20000 in
theorem t_97 : Cond.selects RX10 yX10_done yX10_done ∈ lw_tbl := tb_7 _ (List.mem_of_getElem? (i := 83) rfl)
set_option maxRecDepth 20000 in
theorem t_98 : Cond.methodLink RL 54 yX9_known ∈ lw_tbl := tb_4 _ (List.mem_of_getElem? (i := 78) rfl)
set_option maxRecDepth 20000 in
theorem t_99 : Cond.instanceMethod yX9_known ∈ lw_tbl := tb_4 _ (List.mem_of_getElem? (i := 79) rfl)
set_option maxRecDepth 20000 in
theorem t_100 : Cond.selects RX9 yX9_known yX9_known ∈ lw_tbl := tb_4 _ (List.mem_of_getElem? (i := 80) rfl)
set_option maxRecDepth 20000 in
theorem t_101 : Cond.methodLink RL 57 yX10_known ∈ lw_tbl := tb_7 _ (List.mem_of_getElem? (i := 19) rfl)
set_option maxRecDepth 20000 in
theorem t_102 : Cond.instanceMethod yX10_known ∈ lw_tbl := tb_7 _ (List.mem_of_getElem? (i := 20) rfl)
set_option maxRecDepth 20000 in
theorem t_103 : Cond.selects RX10 yX10_known yX10_known ∈ lw_tbl := tb_7 _ (List.mem_of_getElem? (i := 21) rfl)
set_option maxRecDepth 20000 in
theorem t_104 : Cond.methodLink RL 58 yX9_debts ∈ lw_tbl := tb_4 _ (List.mem_of_getElem? (i := 83) rfl)
set_option maxRecDepth 20000 in
theorem t_105 : Cond.instanceMethod yX9_debts ∈ lw_tbl := tb_4 _ (List.mem_of_getElem? (i := 84) rfl)
set_option maxRecDepth 20000 in
theorem t_106 : Cond.selects RX9 yX9_debts yX9_debts ∈ lw_tbl := tb_4 _ (List.mem_of_getElem? (i := 85) rfl)
set_option maxRecDepth 20000 in
theorem t_107 : Cond.methodLink RL 61 yX10_debts ∈ lw_tbl := tb_7 _ (List.mem_of_getElem? (i := 92) rfl)
set_option maxRecDepth 20000 in
theorem t_108 : Cond.instanceMethod yX10_debts ∈ lw_tbl := tb_7 _ (List.mem_of_getElem? (i := 93) rfl)
set_option maxRecDepth 20000 in
theorem t_109 : Cond.selects RX10 yX10_debts yX10_debts ∈ lw_tbl := tb_7 _ (List.mem_of_getElem? (i := 94) rfl)
set_option maxRecDepth 20000 in
theorem t_110 : Cond.methodLink RL 62 yX9_debt ∈ lw_tbl := tb_4 _ (List.mem_of_getElem? (i := 88) rfl)
set_option maxRecDepth 20000 in
theorem t_111 : Cond.instanceMethod yX9_debt ∈ lw_tbl := tb_4 _ (List.mem_of_getElem? (i := 89) rfl)
set_option maxRecDepth 20000 in
theorem t_112 : Cond.selects RX9 yX9_debt yX9_debt ∈ lw_tbl := tb_4 _ (List.mem_of_getElem? (i := 90) rfl)
set_option maxRecDepth 20000 in
theorem t_113 : Cond.methodLink RL 65 yX10_debt ∈ lw_tbl := tb_7 _ (List.mem_of_getElem? (i := 96) rfl)
set_option maxRecDepth 20000 in
theorem t_114 : Cond.instanceMethod yX10_debt ∈ lw_tbl := tb_7 _ (List.mem_of_getElem? (i := 97) rfl)
set_option maxRecDepth 20000 in
theorem t_115 : Cond.selects RX10 yX10_debt yX10_debt ∈ lw_tbl := tb_7 _ (List.mem_of_getElem? (i := 98) rfl)
set_option maxRecDepth 20000 in
theorem t_116 : Cond.methodLink RL 66 yX9_slights ∈ lw_tbl := tb_4 _ (List.mem_of_getElem? (i := 96) rfl)
set_option maxRecDepth 20000 in
theorem t_117 : Cond.instanceMethod yX9_slights ∈ lw_tbl := tb_4 _ (List.mem_of_getElem? (i := 97) rfl)
set_option maxRecDepth 20000 in
theorem t_118 : Cond.selects RX9 yX9_slights yX9_slights ∈ lw_tbl := tb_4 _ (List.mem_of_getElem? (i := 98) rfl)
set_option maxRecDepth 20000 in
theorem t_119 : Cond.methodLink RL 69 yX10_slights ∈ lw_tbl := tb_7 _ (List.mem_of_getElem? (i := 104) rfl)
set_option maxRecDepth 20000 in
theorem t_120 : Cond.instanceMethod yX10_slights ∈ lw_tbl := tb_7 _ (List.mem_of_getElem? (i := 105) rfl)
set_option maxRecDepth 20000 in
theorem t_121 : Cond.selects RX10 yX10_slights yX10_slights ∈ lw_tbl := tb_7 _ (List.mem_of_getElem? (i := 106) rfl)
set_option maxRecDepth 20000 in
theorem t_122 : Cond.methodLink RL 70 yX9_first ∈ lw_tbl := tb_4 _ (List.mem_of_getElem? (i := 104) rfl)
set_option maxRecDepth 20000 in
theorem t_123 : Cond.instanceMethod yX9_first ∈ lw_tbl := tb_4 _ (List.mem_of_getElem? (i := 105) rfl)
set_option maxRecDepth 20000 in
theorem t_124 : Cond.selects RX9 yX9_first yX9_first ∈ lw_tbl := tb_4 _ (List.mem_of_getElem? (i := 106) rfl)
set_option maxRecDepth 20000 in
theorem t_125 : Cond.methodLink RL 73 yX10_first ∈ lw_tbl := tb_7 _ (List.mem_of_getElem? (i := 112) rfl)
set_option maxRecDepth 20000 in
theorem t_126 : Cond.instanceMethod yX10_first ∈ lw_tbl := tb_7 _ (List.mem_of_getElem? (i := 113) rfl)
set_option maxRecDepth 20000 in
theorem t_127 : Cond.selects RX10 yX10_first yX10_first ∈ lw_tbl := tb_7 _ (List.mem_of_getElem? (i := 114) rfl)
set_option maxRecDepth 20000 in
theorem t_128 : Cond.methodLink RL 74 yX9_owes ∈ lw_tbl := tb_4 _ (List.mem_of_getElem? (i := 108) rfl)
set_option maxRecDepth 20000 in
theorem t_129 : Cond.instanceMethod yX9_owes ∈ lw_tbl := tb_4 _ (List.mem_of_getElem? (i := 109) rfl)
set_option maxRecDepth 20000 in
theorem t_130 : Cond.selects RX9 yX9_owes yX9_owes ∈ lw_tbl := tb_4 _ (List.mem_of_getElem? (i := 110) rfl)
set_option maxRecDepth 20000 in
theorem t_131 : Cond.methodLink RL 77 yX10_owes ∈ lw_tbl := tb_7 _ (List.mem_of_getElem? (i := 116) rfl)
set_option maxRecDepth 20000 in
theorem t_132 : Cond.instanceMethod yX10_owes ∈ lw_tbl := tb_7 _ (List.mem_of_getElem? (i := 117) rfl)
set_option maxRecDepth 20000 in
theorem t_133 : Cond.selects RX10 yX10_owes yX10_owes ∈ lw_tbl := tb_7 _ (List.mem_of_getElem? (i := 118) rfl)
set_option maxRecDepth 20000 in
theorem t_134 : Cond.methodLink RL 78 yX9_worth ∈ lw_tbl := tb_4 _ (List.mem_of_getElem? (i := 116) rfl)
set_option maxRecDepth 20000 in
theorem t_135 : Cond.instanceMethod yX9_worth ∈ lw_tbl := tb_4 _ (List.mem_of_getElem? (i := 117) rfl)
set_option maxRecDepth 20000 in
theorem t_136 : Cond.selects RX9 yX9_worth yX9_worth ∈ lw_tbl := tb_4 _ (List.mem_of_getElem? (i := 118) rfl)
set_option maxRecDepth 20000 in
theorem t_137 : Cond.methodLink RL 81 yX10_worth ∈ lw_tbl := tb_7 _ (List.mem_of_getElem? (i := 120) rfl)
set_option maxRecDepth 20000 in
theorem t_138 : Cond.instanceMethod yX10_worth ∈ lw_tbl := tb_7 _ (List.mem_of_getElem? (i := 121) rfl)
set_option maxRecDepth 20000 in
theorem t_139 : Cond.selects RX10 yX10_worth yX10_worth ∈ lw_tbl := tb_7 _ (List.mem_of_getElem? (i := 122) rfl)
set_option maxRecDepth 20000 in
theorem t_140 : Cond.methodLink RL 82 yX9_round ∈ lw_tbl := tb_4 _ (List.mem_of_getElem? (i := 193) rfl)
set_option maxRecDepth 20000 in
theorem t_141 : Cond.instanceMethod yX9_round ∈ lw_tbl := tb_4 _ (List.mem_of_getElem? (i := 194) rfl)
set_option maxRecDepth 20000 in
theorem t_142 : Cond.selects RX9 yX9_round yX9_round ∈ lw_tbl := tb_4 _ (List.mem_of_getElem? (i := 195) rfl)
set_option maxRecDepth 20000 in
theorem t_143 : Cond.methodLink RL 85 yX10_round ∈ lw_tbl := tb_7 _ (List.mem_of_getElem? (i := 163) rfl)
set_option maxRecDepth 20000 in
theorem t_144 : Cond.instanceMethod yX10_round ∈ lw_tbl := tb_7 _ (List.mem_of_getElem? (i := 164) rfl)
set_option maxRecDepth 20000 in
theorem t_145 : Cond.selects RX10 yX10_round yX10_round ∈ lw_tbl := tb_7 _ (List.mem_of_getElem? (i := 165) rfl)
set_option maxRecDepth 20000 in
theorem t_146 : Cond.methodLink RL 86 yX9_over ∈ lw_tbl := tb_4 _ (List.mem_of_getElem? (i := 197) rfl)
set_option maxRecDepth 20000 in
theorem t_147 : Cond.instanceMethod yX9_over ∈ lw_tbl := tb_4 _ (List.mem_of_getElem? (i := 198) rfl)
set_option maxRecDepth 20000 in
theorem t_148 : Cond.selects RX9 yX9_over yX9_over ∈ lw_tbl := tb_4 _ (List.mem_of_getElem? (i := 199) rfl)
set_option maxRecDepth 20000 in
theorem t_149 : Cond.methodLink RL 89 yX10_over ∈ lw_tbl := tb_7 _ (List.mem_of_getElem? (i := 159) rfl)
set_option maxRecDepth 20000 in
theorem t_150 : Cond.instanceMethod yX10_over ∈ lw_tbl := tb_7 _ (List.mem_of_getElem? (i := 160) rfl)
set_option maxRecDepth 20000 in
theorem t_151 : Cond.selects RX10 yX10_over yX10_over ∈ lw_tbl := tb_7 _ (List.mem_of_getElem? (i := 161) rfl)
set_option maxRecDepth 20000 in
theorem t_152 : Cond.methodLink RL 90 yX9_may ∈ lw_tbl := tb_4 _ (List.mem_of_getElem? (i := 201) rfl)
set_option maxRecDepth 20000 in
theorem t_153 : Cond.instanceMethod yX9_may ∈ lw_tbl := tb_4 _ (List.mem_of_getElem? (i := 202) rfl)
set_option maxRecDepth 20000 in
theorem t_154 : Cond.selects RX9 yX9_may yX9_may ∈ lw_tbl := tb_4 _ (List.mem_of_getElem? (i := 203) rfl)
set_option maxRecDepth 20000 in
theorem t_155 : Cond.methodLink RL 93 yX10_may ∈ lw_tbl := tb_7 _ (List.mem_of_getElem? (i := 171) rfl)
set_option maxRecDepth 20000 in
theorem t_156 : Cond.instanceMethod yX10_may ∈ lw_tbl := tb_7 _ (List.mem_of_getElem? (i := 172) rfl)
set_option maxRecDepth 20000 in
theorem t_157 : Cond.selects RX10 yX10_may yX10_may ∈ lw_tbl := tb_7 _ (List.mem_of_getElem? (i := 173) rfl)
set_option maxRecDepth 20000 in
theorem t_158 : Cond.methodLink RL 94 yX9_fewest ∈ lw_tbl := tb_4 _ (List.mem_of_getElem? (i := 211) rfl)
set_option maxRecDepth 20000 in
theorem t_159 : Cond.instanceMethod yX9_fewest ∈ lw_tbl := tb_4 _ (List.mem_of_getElem? (i := 212) rfl)
set_option maxRecDepth 20000 in
theorem t_160 : Cond.selects RX9 yX9_fewest yX9_fewest ∈ lw_tbl := tb_4 _ (List.mem_of_getElem? (i := 213) rfl)
set_option maxRecDepth 20000 in
theorem t_161 : Cond.methodLink RL 97 yX10_fewest ∈ lw_tbl := tb_7 _ (List.mem_of_getElem? (i := 175) rfl)
set_option maxRecDepth 20000 in
theorem t_162 : Cond.instanceMethod yX10_fewest ∈ lw_tbl := tb_7 _ (List.mem_of_getElem? (i := 176) rfl)
set_option maxRecDepth 20000 in
theorem t_163 : Cond.selects RX10 yX10_fewest yX10_fewest ∈ lw_tbl := tb_7 _ (List.mem_of_getElem? (i := 177) rfl)
set_option maxRecDepth 20000 in
theorem t_164 : Cond.methodLink RL 98 yX9_lost ∈ lw_tbl := tb_4 _ (List.mem_of_getElem? (i := 232) rfl)
set_option maxRecDepth 20000 in
theorem t_165 : Cond.instanceMethod yX9_lost ∈ lw_tbl := tb_4 _ (List.mem_of_getElem? (i := 233) rfl)
set_option maxRecDepth 20000 in
theorem t_166 : Cond.selects RX9 yX9_lost yX9_lost ∈ lw_tbl := tb_4 _ (List.mem_of_getElem? (i := 234) rfl)
set_option maxRecDepth 20000 in
theorem t_167 : Cond.methodLink RL 101 yX10_lost ∈ lw_tbl := tb_7 _ (List.mem_of_getElem? (i := 187) rfl)
set_option maxRecDepth 20000 in
theorem t_168 : Cond.instanceMethod yX10_lost ∈ lw_tbl := tb_7 _ (List.mem_of_getElem? (i := 188) rfl)
set_option maxRecDepth 20000 in
theorem t_169 : Cond.selects RX10 yX10_lost yX10_lost ∈ lw_tbl := tb_7 _ (List.mem_of_getElem? (i := 189) rfl)
set_option maxRecDepth 20000 in
theorem t_170 : Cond.methodLink RL 102 yX9_soon ∈ lw_tbl := tb_5 _ (List.mem_of_getElem? (i := 4) rfl)
set_option maxRecDepth 20000 in
theorem t_171 : Cond.instanceMethod yX9_soon ∈ lw_tbl := tb_5 _ (List.mem_of_getElem? (i := 5) rfl)
set_option maxRecDepth 20000 in
theorem t_172 : Cond.selects RX9 yX9_soon yX9_soon ∈ lw_tbl := tb_5 _ (List.mem_of_getElem? (i := 6) rfl)
set_option maxRecDepth 20000 in
theorem t_173 : Cond.methodLink RL 105 yX10_soon ∈ lw_tbl := tb_7 _ (List.mem_of_getElem? (i := 191) rfl)
set_option maxRecDepth 20000 in
theorem t_174 : Cond.instanceMethod yX10_soon ∈ lw_tbl := tb_7 _ (List.mem_of_getElem? (i := 192) rfl)
set_option maxRecDepth 20000 in
theorem t_175 : Cond.selects RX10 yX10_soon yX10_soon ∈ lw_tbl := tb_7 _ (List.mem_of_getElem? (i := 193) rfl)
set_option maxRecDepth 20000 in
theorem t_176 : Cond.methodLink RL 106 yX9_path ∈ lw_tbl := tb_5 _ (List.mem_of_getElem? (i := 34) rfl)
set_option maxRecDepth 20000 in
theorem t_177 : Cond.instanceMethod yX9_path ∈ lw_tbl := tb_5 _ (List.mem_of_getElem? (i := 35) rfl)
set_option maxRecDepth 20000 in
theorem t_178 : Cond.selects RX9 yX9_path yX9_path ∈ lw_tbl := tb_5 _ (List.mem_of_getElem? (i := 36) rfl)
set_option maxRecDepth 20000 in
theorem t_179 : Cond.methodLink RL 109 yX10_path ∈ lw_tbl := tb_7 _ (List.mem_of_getElem? (i := 203) rfl)
set_option maxRecDepth 20000 in
theorem t_180 : Cond.instanceMethod yX10_path ∈ lw_tbl := tb_7 _ (List.mem_of_getElem? (i := 204) rfl)
set_option maxRecDepth 20000 in
theorem t_181 : Cond.selects RX10 yX10_path yX10_path ∈ lw_tbl := tb_7 _ (List.mem_of_getElem? (i := 205) rfl)
set_option maxRecDepth 20000 in
theorem t_182 : Cond.methodLink RL 110 yX9_reach ∈ lw_tbl := tb_5 _ (List.mem_of_getElem? (i := 38) rfl)
set_option maxRecDepth 20000 in
theorem t_183 : Cond.instanceMethod yX9_reach ∈ lw_tbl := tb_5 _ (List.mem_of_getElem? (i := 39) rfl)
set_option maxRecDepth 20000 in
theorem t_184 : Cond.selects RX9 yX9_reach yX9_reach ∈ lw_tbl := tb_5 _ (List.mem_of_getElem? (i := 40) rfl)
set_option maxRecDepth 20000 in
theorem t_185 : Cond.methodLink RL 113 yX10_reach ∈ lw_tbl := tb_7 _ (List.mem_of_getElem? (i := 207) rfl)
set_option maxRecDepth 20000 in
theorem t_186 : Cond.instanceMethod yX10_reach ∈ lw_tbl := tb_7 _ (List.mem_of_getElem? (i := 208) rfl)
set_option maxRecDepth 20000 in
theorem t_187 : Cond.selects RX10 yX10_reach yX10_reach ∈ lw_tbl := tb_7 _ (List.mem_of_getElem? (i := 209) rfl)
set_option maxRecDepth 20000 in
theorem t_188 : Cond.methodLink RL 114 yX9_drop ∈ lw_tbl := tb_5 _ (List.mem_of_getElem? (i := 46) rfl)
set_option maxRecDepth 20000 in
theorem t_189 : Cond.instanceMethod yX9_drop ∈ lw_tbl := tb_5 _ (List.mem_of_getElem? (i := 47) rfl)
set_option maxRecDepth 20000 in
theorem t_190 : Cond.selects RX9 yX9_drop yX9_drop ∈ lw_tbl := tb_5 _ (List.mem_of_getElem? (i := 48) rfl)
set_option maxRecDepth 20000 in
theorem t_191 : Cond.methodLink RL 117 yX10_drop ∈ lw_tbl := tb_7 _ (List.mem_of_getElem? (i := 215) rfl)
set_option maxRecDepth 20000 in
theorem t_192 : Cond.instanceMethod yX10_drop ∈ lw_tbl := tb_7 _ (List.mem_of_getElem? (i := 216) rfl)
set_option maxRecDepth 20000 in
theorem t_193 : Cond.selects RX10 yX10_drop yX10_drop ∈ lw_tbl := tb_7 _ (List.mem_of_getElem? (i := 217) rfl)
set_option maxRecDepth 20000 in
theorem t_194 : Cond.methodLink RL 118 yX9_tie ∈ lw_tbl := tb_5 _ (List.mem_of_getElem? (i := 59) rfl)
set_option maxRecDepth 20000 in
theorem t_195 : Cond.instanceMethod yX9_tie ∈ lw_tbl := tb_5 _ (List.mem_of_getElem? (i := 60) rfl)
set_option maxRecDepth 20000 in
theorem t_196 : Cond.selects RX9 yX9_tie yX9_tie ∈ lw_tbl := tb_5 _ (List.mem_of_getElem? (i := 61) rfl)
set_option maxRecDepth 20000 in
theorem t_197 : Cond.methodLink RL 121 yX10_tie ∈ lw_tbl := tb_7 _ (List.mem_of_getElem? (i := 219) rfl)
set_option maxRecDepth 20000 in
theorem t_198 : Cond.instanceMethod yX10_tie ∈ lw_tbl := tb_7 _ (List.mem_of_getElem? (i := 220) rfl)
set_option maxRecDepth 20000 in
theorem t_199 : Cond.selects RX10 yX10_tie yX10_tie ∈ lw_tbl := tb_7 _ (List.mem_of_getElem? (i := 221) rfl)
set_option maxRecDepth 20000 in
theorem t_200 : Cond.methodLink RL 122 yX9_rings ∈ lw_tbl := tb_5 _ (List.mem_of_getElem? (i := 64) rfl)
set_option maxRecDepth 20000 in
theorem t_201 : Cond.instanceMethod yX9_rings ∈ lw_tbl := tb_5 _ (List.mem_of_getElem? (i := 65) rfl)
set_option maxRecDepth 20000 in
theorem t_202 : Cond.selects RX9 yX9_rings yX9_rings ∈ lw_tbl := tb_5 _ (List.mem_of_getElem? (i := 66) rfl)
set_option maxRecDepth 20000 in
theorem t_203 : Cond.methodLink RL 125 yX10_rings ∈ lw_tbl := tb_7 _ (List.mem_of_getElem? (i := 239) rfl)
set_option maxRecDepth 20000 in
theorem t_204 : Cond.instanceMethod yX10_rings ∈ lw_tbl := tb_8 _ (List.mem_of_getElem? (i := 0) rfl)
set_option maxRecDepth 20000 in
theorem t_205 : Cond.selects RX10 yX10_rings yX10_rings ∈ lw_tbl := tb_8 _ (List.mem_of_getElem? (i := 1) rfl)
set_option maxRecDepth 20000 in
theorem t_206 : Cond.methodLink RL 126 yX9_ring ∈ lw_tbl := tb_5 _ (List.mem_of_getElem? (i := 77) rfl)
set_option maxRecDepth 20000 in
theorem t_207 : Cond.instanceMethod yX9_ring ∈ lw_tbl := tb_5 _ (List.mem_of_getElem? (i := 78) rfl)
set_option maxRecDepth 20000 in
theorem t_208 : Cond.selects RX9 yX9_ring yX9_ring ∈ lw_tbl := tb_5 _ (List.mem_of_getElem? (i := 79) rfl)
set_option maxRecDepth 20000 in
theorem t_209 : Cond.methodLink RL 129 yX10_ring ∈ lw_tbl := tb_7 _ (List.mem_of_getElem? (i := 223) rfl)
set_option maxRecDepth 20000 in
theorem t_210 : Cond.instanceMethod yX10_ring ∈ lw_tbl := tb_7 _ (List.mem_of_getElem? (i := 224) rfl)
set_option maxRecDepth 20000 in
theorem t_211 : Cond.selects RX10 yX10_ring yX10_ring ∈ lw_tbl := tb_7 _ (List.mem_of_getElem? (i := 225) rfl)
set_option maxRecDepth 20000 in
theorem t_212 : Cond.methodLink RL 130 yX9_house ∈ lw_tbl := tb_5 _ (List.mem_of_getElem? (i := 81) rfl)
set_option maxRecDepth 20000 in
theorem t_213 : Cond.instanceMethod yX9_house ∈ lw_tbl := tb_5 _ (List.mem_of_getElem? (i := 82) rfl)
set_option maxRecDepth 20000 in
theorem t_214 : Cond.selects RX9 yX9_house yX9_house ∈ lw_tbl := tb_5 _ (List.mem_of_getElem? (i := 83) rfl)
set_option maxRecDepth 20000 in
theorem t_215 : Cond.methodLink RL 133 yX10_house ∈ lw_tbl := tb_8 _ (List.mem_of_getElem? (i := 3) rfl)
set_option maxRecDepth 20000 in
theorem t_216 : Cond.instanceMethod yX10_house ∈ lw_tbl := tb_8 _ (List.mem_of_getElem? (i := 4) rfl)
set_option maxRecDepth 20000 in
theorem t_217 : Cond.selects RX10 yX10_house yX10_house ∈ lw_tbl := tb_8 _ (List.mem_of_getElem? (i := 5) rfl)
set_option maxRecDepth 20000 in
theorem t_218 : Cond.methodLink RL 134 yX9_beside ∈ lw_tbl := tb_5 _ (List.mem_of_getElem? (i := 94) rfl)
set_option maxRecDepth 20000 in
theorem t_219 : Cond.instanceMethod yX9_beside ∈ lw_tbl := tb_5 _ (List.mem_of_getElem? (i := 95) rfl)
set_option maxRecDepth 20000 in
theorem t_220 : Cond.selects RX9 yX9_beside yX9_beside ∈ lw_tbl := tb_5 _ (List.mem_of_getElem? (i := 96) rfl)
set_option maxRecDepth 20000 in
theorem t_221 : Cond.methodLink RL 137 yX10_beside ∈ lw_tbl := tb_8 _ (List.mem_of_getElem? (i := 9) rfl)
set_option maxRecDepth 20000 in
theorem t_222 : Cond.instanceMethod yX10_beside ∈ lw_tbl := tb_8 _ (List.mem_of_getElem? (i := 10) rfl)
set_option maxRecDepth 20000 in
theorem t_223 : Cond.selects RX10 yX10_beside yX10_beside ∈ lw_tbl := tb_8 _ (List.mem_of_getElem? (i := 11) rfl)
set_option maxRecDepth 20000 in
theorem t_224 : Cond.methodLink RL 138 yX9_count ∈ lw_tbl := tb_5 _ (List.mem_of_getElem? (i := 105) rfl)
set_option maxRecDepth 20000 in
theorem t_225 : Cond.instanceMethod yX9_count ∈ lw_tbl := tb_5 _ (List.mem_of_getElem? (i := 106) rfl)
set_option maxRecDepth 20000 in
theorem t_226 : Cond.selects RX9 yX9_count yX9_count ∈ lw_tbl := tb_5 _ (List.mem_of_getElem? (i := 107) rfl)
set_option maxRecDepth 20000 in
theorem t_227 : Cond.methodLink RL 141 yX10_count ∈ lw_tbl := tb_8 _ (List.mem_of_getElem? (i := 13) rfl)
set_option maxRecDepth 20000 in
theorem t_228 : Cond.instanceMethod yX10_count ∈ lw_tbl := tb_8 _ (List.mem_of_getElem? (i := 14) rfl)
set_option maxRecDepth 20000 in
theorem t_229 : Cond.selects RX10 yX10_count yX10_count ∈ lw_tbl := tb_8 _ (List.mem_of_getElem? (i := 15) rfl)
set_option maxRecDepth 20000 in
theorem t_230 : Cond.methodLink RL 142 yX9_keep ∈ lw_tbl := tb_5 _ (List.mem_of_getElem? (i := 117) rfl)
set_option maxRecDepth 20000 in
theorem t_231 : Cond.instanceMethod yX9_keep ∈ lw_tbl := tb_5 _ (List.mem_of_getElem? (i := 118) rfl)
set_option maxRecDepth 20000 in
theorem t_232 : Cond.selects RX9 yX9_keep yX9_keep ∈ lw_tbl := tb_5 _ (List.mem_of_getElem? (i := 119) rfl)
set_option maxRecDepth 20000 in
theorem t_233 : Cond.methodLink RL 145 yX10_keep ∈ lw_tbl := tb_6 _ (List.mem_of_getElem? (i := 58) rfl)
set_option maxRecDepth 20000 in
theorem t_234 : Cond.instanceMethod yX10_keep ∈ lw_tbl := tb_6 _ (List.mem_of_getElem? (i := 59) rfl)
set_option maxRecDepth 20000 in
theorem t_235 : Cond.selects RX10 yX10_keep yX10_keep ∈ lw_tbl := tb_6 _ (List.mem_of_getElem? (i := 60) rfl)
set_option maxRecDepth 20000 in
theorem t_236 : Cond.methodLink RL 146 yX9_back ∈ lw_tbl := tb_5 _ (List.mem_of_getElem? (i := 135) rfl)
set_option maxRecDepth 20000 in
theorem t_237 : Cond.instanceMethod yX9_back ∈ lw_tbl := tb_5 _ (List.mem_of_getElem? (i := 136) rfl)
set_option maxRecDepth 20000 in
theorem t_238 : Cond.selects RX9 yX9_back yX9_back ∈ lw_tbl := tb_5 _ (List.mem_of_getElem? (i := 137) rfl)
set_option maxRecDepth 20000 in
theorem t_239 : Cond.methodLink RL 149 yX10_back ∈ lw_tbl := tb_6 _ (List.mem_of_getElem? (i := 66) rfl)
set_option maxRecDepth 20000 in
theorem t_240 : Cond.instanceMethod yX10_back ∈ lw_tbl := tb_6 _ (List.mem_of_getElem? (i := 67) rfl)
set_option maxRecDepth 20000 in
theorem t_241 : Cond.selects RX10 yX10_back yX10_back ∈ lw_tbl := tb_6 _ (List.mem_of_getElem? (i := 68) rfl)
set_option maxRecDepth 20000 in
theorem t_242 : Cond.methodLink RL 150 yX9_row ∈ lw_tbl := tb_5 _ (List.mem_of_getElem? (i := 139) rfl)
set_option maxRecDepth 20000 in
theorem t_243 : Cond.instanceMethod yX9_row ∈ lw_tbl := tb_5 _ (List.mem_of_getElem? (i := 140) rfl)
set_option maxRecDepth 20000 in
theorem t_244 : Cond.selects RX9 yX9_row yX9_row ∈ lw_tbl := tb_5 _ (List.mem_of_getElem? (i := 141) rfl)
set_option maxRecDepth 20000 in
theorem t_245 : Cond.methodLink RL 153 yX10_row ∈ lw_tbl := tb_8 _ (List.mem_of_getElem? (i := 17) rfl)
set_option maxRecDepth 20000 in
theorem t_246 : Cond.instanceMethod yX10_row ∈ lw_tbl := tb_8 _ (List.mem_of_getElem? (i := 18) rfl)
set_option maxRecDepth 20000 in
theorem t_247 : Cond.selects RX10 yX10_row yX10_row ∈ lw_tbl := tb_8 _ (List.mem_of_getElem? (i := 19) rfl)
set_option maxRecDepth 20000 in
theorem t_248 : Cond.constantLong RL 154 (4294967295) ∈ lw_tbl := tb_8 _ (List.mem_of_getElem? (i := 32) rfl)
set_option maxRecDepth 20000 in
theorem t_249 : Cond.methodLink RL 156 yX9_write ∈ lw_tbl := tb_5 _ (List.mem_of_getElem? (i := 150) rfl)
set_option maxRecDepth 20000 in
theorem t_250 : Cond.instanceMethod yX9_write ∈ lw_tbl := tb_5 _ (List.mem_of_getElem? (i := 151) rfl)
set_option maxRecDepth 20000 in
theorem t_251 : Cond.selects RX9 yX9_write yX9_write ∈ lw_tbl := tb_5 _ (List.mem_of_getElem? (i := 152) rfl)
set_option maxRecDepth 20000 in
theorem t_252 : Cond.methodLink RL 160 yX10_write ∈ lw_tbl := tb_8 _ (List.mem_of_getElem? (i := 21) rfl)
set_option maxRecDepth 20000 in
theorem t_253 : Cond.instanceMethod yX10_write ∈ lw_tbl := tb_8 _ (List.mem_of_getElem? (i := 22) rfl)
set_option maxRecDepth 20000 in
theorem t_254 : Cond.selects RX10 yX10_write yX10_write ∈ lw_tbl := tb_8 _ (List.mem_of_getElem? (i := 23) rfl)
set_option maxRecDepth 20000 in
theorem t_255 : Cond.methodLink RL 161 yX9_paste ∈ lw_tbl := tb_5 _ (List.mem_of_getElem? (i := 158) rfl)
set_option maxRecDepth 20000 in
theorem t_256 : Cond.instanceMethod yX9_paste ∈ lw_tbl := tb_5 _ (List.mem_of_getElem? (i := 159) rfl)
set_option maxRecDepth 20000 in
theorem t_257 : Cond.selects RX9 yX9_paste yX9_paste ∈ lw_tbl := tb_5 _ (List.mem_of_getElem? (i := 160) rfl)
set_option maxRecDepth 20000 in
theorem t_258 : Cond.methodLink RL 164 yX10_paste ∈ lw_tbl := tb_8 _ (List.mem_of_getElem? (i := 28) rfl)
set_option maxRecDepth 20000 in
theorem t_259 : Cond.instanceMethod yX10_paste ∈ lw_tbl := tb_8 _ (List.mem_of_getElem? (i := 29) rfl)
set_option maxRecDepth 20000 in
theorem t_260 : Cond.selects RX10 yX10_paste yX10_paste ∈ lw_tbl := tb_8 _ (List.mem_of_getElem? (i := 30) rfl)
set_option maxRecDepth 20000 in
theorem t_261 : Cond.code yX0_bounded cX0_bounded 3 (some .long) ∈ lw_tbl := tb_4 _ (List.mem_of_getElem? (i := 34) rfl)
set_option maxRecDepth 20000 in
theorem t_262 : Cond.constantLong RX0 72 (1000000000) ∈ lw_tbl := tb_4 _ (List.mem_of_getElem? (i := 35) rfl)
set_option maxRecDepth 20000 in
theorem t_263 : Cond.constantLong RX0 74 (-1000000000) ∈ lw_tbl := tb_4 _ (List.mem_of_getElem? (i := 36) rfl)
set_option maxRecDepth 20000 in
theorem t_264 : Cond.fieldLink RX0 56 "CardBowl$Code" "beyond" "Z" ∈ lw_tbl := tb_1 _ (List.mem_of_getElem? (i := 136) rfl)
set_option maxRecDepth 20000 in
theorem t_265 : Cond.code yX0_clear cX0_clear 1 none ∈ lw_tbl := tb_3 _ (List.mem_of_getElem? (i := 27) rfl)
set_option maxRecDepth 20000 in
theorem t_266 : Cond.fieldLink RX0 33 "CardBowl$Code" "lines" "I" ∈ lw_tbl := tb_1 _ (List.mem_of_getElem? (i := 117) rfl)
set_option maxRecDepth 20000 in
theorem t_267 : Cond.fieldLink RX0 37 "CardBowl$Code" "used" "I" ∈ lw_tbl := tb_1 _ (List.mem_of_getElem? (i := 120) rfl)
set_option maxRecDepth 20000 in
theorem t_268 : Cond.code yX0_compares cX0_compares 5 (some .boolean) ∈ lw_tbl := tb_4 _ (List.mem_of_getElem? (i := 39) rfl)
set_option maxRecDepth 20000 in
theorem t_269 : Cond.code yX0_copy cX0_copy 2 none ∈ lw_tbl := tb_3 _ (List.mem_of_getElem? (i := 164) rfl)
set_option maxRecDepth 20000 in
theorem t_270 : Cond.fieldLink RX0 9 "CardBowl$Code" "paying" "[I" ∈ lw_tbl := tb_1 _ (List.mem_of_getElem? (i := 122) rfl)
set_option maxRecDepth 20000 in
theorem t_271 : Cond.methodLink RX0 40 arraycopyName ∈ lw_tbl := tb_3 _ (List.mem_of_getElem? (i := 165) rfl)
set_option maxRecDepth 20000 in
theorem t_272 : Cond.native arraycopyName ∈ lw_tbl := tb_3 _ (List.mem_of_getElem? (i := 160) rfl)
set_option maxRecDepth 20000 in
theorem t_273 : Cond.static arraycopyName ∈ lw_tbl := tb_3 _ (List.mem_of_getElem? (i := 159) rfl)
set_option maxRecDepth 20000 in
theorem t_274 : Cond.initialized "java/lang/System" ∈ lw_tbl := tb_1 _ (List.mem_of_getElem? (i := 18) rfl)
set_option maxRecDepth 20000 in
theorem t_275 : Cond.fieldLink RX0 15 "CardBowl$Code" "kind" "[I" ∈ lw_tbl := tb_1 _ (List.mem_of_getElem? (i := 124) rfl)
set_option maxRecDepth 20000 in
theorem t_276 : Cond.fieldLink RX0 18 "CardBowl$Code" "within" "[I" ∈ lw_tbl := tb_1 _ (List.mem_of_getElem? (i := 127) rfl)
set_option maxRecDepth 20000 in
theorem t_277 : Cond.fieldLink RX0 21 "CardBowl$Code" "start" "[I" ∈ lw_tbl := tb_1 _ (List.mem_of_getElem? (i := 130) rfl)
set_option maxRecDepth 20000 in
theorem t_278 : Cond.fieldLink RX0 24 "CardBowl$Code" "stop" "[I" ∈ lw_tbl := tb_1 _ (List.mem_of_getElem? (i := 132) rfl)
set_option maxRecDepth 20000 in
theorem t_279 : Cond.fieldLink RX0 27 "CardBowl$Code" "tests" "[I" ∈ lw_tbl := tb_1 _ (List.mem_of_getElem? (i := 134) rfl)
set_option maxRecDepth 20000 in
theorem t_280 : Cond.code yX0_holds cX0_holds 13 (some .boolean) ∈ lw_tbl := tb_4 _ (List.mem_of_getElem? (i := 25) rfl)
set_option maxRecDepth 20000 in
theorem t_281 : Cond.methodLink RX0 50 Lib.Math.min.name ∈ lw_tbl := tb_4 _ (List.mem_of_getElem? (i := 26) rfl)
set_option maxRecDepth 20000 in
theorem t_282 : Cond.static Lib.Math.min.name ∈ lw_tbl := tb_3 _ (List.mem_of_getElem? (i := 15) rfl)
set_option maxRecDepth 20000 in
theorem t_283 : Cond.initialized "java/lang/Math" ∈ lw_tbl := tb_1 _ (List.mem_of_getElem? (i := 12) rfl)
set_option maxRecDepth 20000 in
theorem t_284 : Cond.code Lib.Math.min.name Lib.Math.min.code 2 (some .int) ∈ lw_tbl := tb_3 _ (List.mem_of_getElem? (i := 16) rfl)
set_option maxRecDepth 20000 in
theorem t_285 : Cond.methodLink RX0 60 yX0_partOf ∈ lw_tbl := tb_4 _ (List.mem_of_getElem? (i := 27) rfl)
set_option maxRecDepth 20000 in
theorem t_286 : Cond.initialized RX0 ∈ lw_tbl := tb_1 _ (List.mem_of_getElem? (i := 4) rfl)
set_option maxRecDepth 20000 in
theorem t_287 : Cond.instanceMethod yX0_partOf ∈ lw_tbl := tb_4 _ (List.mem_of_getElem? (i := 29) rfl)
theorem t_288 : Cond.selects RX0 yX0_partOf yX0_partOf ∈ lw_tbl := List.mem_append_left _ (List.mem_of_getElem? (i := 21) (by decide +kernel))
set_option maxRecDepth 20000 in
theorem t_289 : Cond.methodLink RX0 64 yX0_bounded ∈ lw_tbl := tb_4 _ (List.mem_of_getElem? (i := 31) rfl)
set_option maxRecDepth 20000 in
theorem t_290 : Cond.instanceMethod yX0_bounded ∈ lw_tbl := tb_4 _ (List.mem_of_getElem? (i := 33) rfl)
theorem t_291 : Cond.selects RX0 yX0_bounded yX0_bounded ∈ lw_tbl := List.mem_append_left _ (List.mem_of_getElem? (i := 22) (by decide +kernel))
set_option maxRecDepth 20000 in
theorem t_292 : Cond.methodLink RX0 68 yX0_compares ∈ lw_tbl := tb_4 _ (List.mem_of_getElem? (i := 37) rfl)
set_option maxRecDepth 20000 in
theorem t_293 : Cond.static yX0_compares ∈ lw_tbl := tb_4 _ (List.mem_of_getElem? (i := 38) rfl)
set_option maxRecDepth 20000 in
theorem t_294 : Cond.code yX0_init cX0_init 1 none ∈ lw_tbl := tb_1 _ (List.mem_of_getElem? (i := 115) rfl)
set_option maxRecDepth 20000 in
theorem t_295 : Cond.methodLink RX0 3 objectInit ∈ lw_tbl := tb_1 _ (List.mem_of_getElem? (i := 116) rfl)
set_option maxRecDepth 20000 in
theorem t_296 : Cond.instanceMethod objectInit ∈ lw_tbl := tb_1 _ (List.mem_of_getElem? (i := 26) rfl)
set_option maxRecDepth 20000 in
theorem t_297 : Cond.code objectInit ⟨#[0xb1]⟩ 1 none ∈ lw_tbl := tb_1 _ (List.mem_of_getElem? (i := 27) rfl)
set_option maxRecDepth 20000 in
theorem t_298 : Cond.arrayClass .int ∈ lw_tbl := tb_1 _ (List.mem_of_getElem? (i := 110) rfl)
set_option maxRecDepth 20000 in
theorem t_299 : Cond.fieldLink RX0 30 "CardBowl$Code" "facts" "[I" ∈ lw_tbl := tb_1 _ (List.mem_of_getElem? (i := 135) rfl)
set_option maxRecDepth 20000 in
theorem t_300 : Cond.code yX0_lineFor cX0_lineFor 8 (some .int) ∈ lw_tbl := tb_4 _ (List.mem_of_getElem? (i := 21) rfl)
set_option maxRecDepth 20000 in
theorem t_301 : Cond.methodLink RX0 46 yX0_holds ∈ lw_tbl := tb_4 _ (List.mem_of_getElem? (i := 22) rfl)
set_option maxRecDepth 20000 in
theorem t_302 : Cond.instanceMethod yX0_holds ∈ lw_tbl := tb_4 _ (List.mem_of_getElem? (i := 24) rfl)
theorem t_303 : Cond.selects RX0 yX0_holds yX0_holds ∈ lw_tbl := List.mem_append_left _ (List.mem_of_getElem? (i := 20) (by decide +kernel))
set_option maxRecDepth 20000 in
theorem t_304 : Cond.code yX0_partOf cX0_partOf 2 (some .int) ∈ lw_tbl := tb_4 _ (List.mem_of_getElem? (i := 30) rfl)
set_option maxRecDepth 20000 in
theorem t_305 : Cond.code yX0_put cX0_put 2 none ∈ lw_tbl := tb_3 _ (List.mem_of_getElem? (i := 126) rfl)
set_option maxRecDepth 20000 in
theorem t_306 : Cond.code yX1_add cX1_add 6 none ∈ lw_tbl := tb_4 _ (List.mem_of_getElem? (i := 48) rfl)
set_option maxRecDepth 20000 in
theorem t_307 : Cond.fieldLink RX1 33 "CardBowl$Debts" "size" "I" ∈ lw_tbl := tb_1 _ (List.mem_of_getElem? (i := 209) rfl)
set_option maxRecDepth 20000 in
theorem t_308 : Cond.fieldLink RX1 9 "CardBowl$Debts" "debtor" "[I" ∈ lw_tbl := tb_1 _ (List.mem_of_getElem? (i := 211) rfl)
set_option maxRecDepth 20000 in
theorem t_309 : Cond.fieldLink RX1 15 "CardBowl$Debts" "creditor" "[I" ∈ lw_tbl := tb_1 _ (List.mem_of_getElem? (i := 212) rfl)
set_option maxRecDepth 20000 in
theorem t_310 : Cond.fieldLink RX1 18 "CardBowl$Debts" "kind" "[I" ∈ lw_tbl := tb_1 _ (List.mem_of_getElem? (i := 215) rfl)
set_option maxRecDepth 20000 in
theorem t_311 : Cond.fieldLink RX1 21 "CardBowl$Debts" "due" "[I" ∈ lw_tbl := tb_1 _ (List.mem_of_getElem? (i := 217) rfl)
set_option maxRecDepth 20000 in
theorem t_312 : Cond.fieldLink RX1 24 "CardBowl$Debts" "came" "[I" ∈ lw_tbl := tb_1 _ (List.mem_of_getElem? (i := 220) rfl)
set_option maxRecDepth 20000 in
theorem t_313 : Cond.fieldLink RX1 27 "CardBowl$Debts" "open" "[I" ∈ lw_tbl := tb_1 _ (List.mem_of_getElem? (i := 222) rfl)
set_option maxRecDepth 20000 in
theorem t_314 : Cond.fieldLink RX1 30 "CardBowl$Debts" "kinds" "[I" ∈ lw_tbl := tb_1 _ (List.mem_of_getElem? (i := 225) rfl)
set_option maxRecDepth 20000 in
theorem t_315 : Cond.code yX1_clear cX1_clear 1 none ∈ lw_tbl := tb_3 _ (List.mem_of_getElem? (i := 169) rfl)
set_option maxRecDepth 20000 in
theorem t_316 : Cond.methodLink RX1 37 yJ7_fill_53178 ∈ lw_tbl := tb_3 _ (List.mem_of_getElem? (i := 170) rfl)
set_option maxRecDepth 20000 in
theorem t_317 : Cond.initialized RJ7 ∈ lw_tbl := tb_1 _ (List.mem_of_getElem? (i := 13) rfl)
set_option maxRecDepth 20000 in
theorem t_318 : Cond.static yJ7_fill_53178 ∈ lw_tbl := tb_3 _ (List.mem_of_getElem? (i := 22) rfl)
set_option maxRecDepth 20000 in
theorem t_319 : Cond.code yX1_copy cX1_copy 2 none ∈ lw_tbl := tb_5 _ (List.mem_of_getElem? (i := 128) rfl)
set_option maxRecDepth 20000 in
theorem t_320 : Cond.methodLink RX1 43 arraycopyName ∈ lw_tbl := tb_5 _ (List.mem_of_getElem? (i := 129) rfl)
set_option maxRecDepth 20000 in
theorem t_321 : Cond.code yX1_init cX1_init 1 none ∈ lw_tbl := tb_1 _ (List.mem_of_getElem? (i := 207) rfl)
set_option maxRecDepth 20000 in
theorem t_322 : Cond.methodLink RX1 3 objectInit ∈ lw_tbl := tb_1 _ (List.mem_of_getElem? (i := 208) rfl)
set_option maxRecDepth 20000 in
theorem t_323 : Cond.code yX1_kindsOf cX1_kindsOf 3 (some .int) ∈ lw_tbl := tb_4 _ (List.mem_of_getElem? (i := 13) rfl)
set_option maxRecDepth 20000 in
theorem t_324 : Cond.code yX1_move cX1_move 3 none ∈ lw_tbl := tb_4 _ (List.mem_of_getElem? (i := 17) rfl)
set_option maxRecDepth 20000 in
theorem t_325 : Cond.code yX1_nth cX1_nth 5 (some .int) ∈ lw_tbl := tb_4 _ (List.mem_of_getElem? (i := 95) rfl)
set_option maxRecDepth 20000 in
theorem t_326 : Cond.code yX1_overdue cX1_overdue 4 (some .int) ∈ lw_tbl := tb_5 _ (List.mem_of_getElem? (i := 112) rfl)
set_option maxRecDepth 20000 in
theorem t_327 : Cond.code yX1_overdueTo cX1_overdueTo 5 (some .int) ∈ lw_tbl := tb_4 _ (List.mem_of_getElem? (i := 103) rfl)
set_option maxRecDepth 20000 in
theorem t_328 : Cond.code yX1_settle cX1_settle 7 (some .int) ∈ lw_tbl := tb_4 _ (List.mem_of_getElem? (i := 9) rfl)
set_option maxRecDepth 20000 in
theorem t_329 : Cond.methodLink RX1 49 yX1_kindsOf ∈ lw_tbl := tb_4 _ (List.mem_of_getElem? (i := 10) rfl)
set_option maxRecDepth 20000 in
theorem t_330 : Cond.initialized RX1 ∈ lw_tbl := tb_1 _ (List.mem_of_getElem? (i := 6) rfl)
set_option maxRecDepth 20000 in
theorem t_331 : Cond.instanceMethod yX1_kindsOf ∈ lw_tbl := tb_4 _ (List.mem_of_getElem? (i := 11) rfl)
set_option maxRecDepth 20000 in
theorem t_332 : Cond.selects RX1 yX1_kindsOf yX1_kindsOf ∈ lw_tbl := tb_4 _ (List.mem_of_getElem? (i := 12) rfl)
set_option maxRecDepth 20000 in
theorem t_333 : Cond.methodLink RX1 53 yX1_move ∈ lw_tbl := tb_4 _ (List.mem_of_getElem? (i := 14) rfl)
set_option maxRecDepth 20000 in
theorem t_334 : Cond.instanceMethod yX1_move ∈ lw_tbl := tb_4 _ (List.mem_of_getElem? (i := 16) rfl)
theorem t_335 : Cond.selects RX1 yX1_move yX1_move ∈ lw_tbl := List.mem_append_left _ (List.mem_of_getElem? (i := 19) (by decide +kernel))
set_option maxRecDepth 20000 in
theorem t_336 : Cond.code yX10_advance cX10_advance 2 none ∈ lw_tbl := tb_6 _ (List.mem_of_getElem? (i := 89) rfl)
set_option maxRecDepth 20000 in
theorem t_337 : Cond.fieldLink RX10 115 "CardBowlModel" "at" "I" ∈ lw_tbl := tb_5 _ (List.mem_of_getElem? (i := 181) rfl)
set_option maxRecDepth 20000 in
theorem t_338 : Cond.methodLink RX10 118 yX10_see ∈ lw_tbl := tb_6 _ (List.mem_of_getElem? (i := 90) rfl)
set_option maxRecDepth 20000 in
theorem t_339 : Cond.instanceMethod yX10_see ∈ lw_tbl := tb_6 _ (List.mem_of_getElem? (i := 92) rfl)
theorem t_340 : Cond.selects RX10 yX10_see yX10_see ∈ lw_tbl := List.mem_append_left _ (List.mem_of_getElem? (i := 44) (by decide +kernel))
set_option maxRecDepth 20000 in
theorem t_341 : Cond.fieldLink RX10 122 "CardBowlModel" "from" "I" ∈ lw_tbl := tb_5 _ (List.mem_of_getElem? (i := 182) rfl)
set_option maxRecDepth 20000 in
theorem t_342 : Cond.fieldLink RX10 125 "CardBowlModel" "token" "I" ∈ lw_tbl := tb_5 _ (List.mem_of_getElem? (i := 183) rfl)
set_option maxRecDepth 20000 in
theorem t_343 : Cond.constantLong RX10 128 (97) ∈ lw_tbl := tb_6 _ (List.mem_of_getElem? (i := 94) rfl)
set_option maxRecDepth 20000 in
theorem t_344 : Cond.constantLong RX10 130 (122) ∈ lw_tbl := tb_6 _ (List.mem_of_getElem? (i := 95) rfl)
set_option maxRecDepth 20000 in
theorem t_345 : Cond.methodLink RX10 101 yX10_in ∈ lw_tbl := tb_6 _ (List.mem_of_getElem? (i := 63) rfl)
set_option maxRecDepth 20000 in
theorem t_346 : Cond.static yX10_in ∈ lw_tbl := tb_6 _ (List.mem_of_getElem? (i := 64) rfl)
set_option maxRecDepth 20000 in
theorem t_347 : Cond.constantLong RX10 132 (48) ∈ lw_tbl := tb_6 _ (List.mem_of_getElem? (i := 96) rfl)
set_option maxRecDepth 20000 in
theorem t_348 : Cond.constantLong RX10 134 (57) ∈ lw_tbl := tb_6 _ (List.mem_of_getElem? (i := 97) rfl)
set_option maxRecDepth 20000 in
theorem t_349 : Cond.fieldLink RX10 136 "CardBowlModel" "value" "I" ∈ lw_tbl := tb_5 _ (List.mem_of_getElem? (i := 184) rfl)
set_option maxRecDepth 20000 in
theorem t_350 : Cond.methodLink RX10 139 Lib.Math.min.name ∈ lw_tbl := tb_6 _ (List.mem_of_getElem? (i := 98) rfl)
set_option maxRecDepth 20000 in
theorem t_351 : Cond.code yX10_areKnown cX10_areKnown 3 (some .boolean) ∈ lw_tbl := tb_7 _ (List.mem_of_getElem? (i := 4) rfl)
set_option maxRecDepth 20000 in
theorem t_352 : Cond.fieldLink RX10 13 "CardBowlModel" "world" "[I" ∈ lw_tbl := tb_5 _ (List.mem_of_getElem? (i := 174) rfl)
set_option maxRecDepth 20000 in
theorem t_353 : Cond.methodLink RX10 294 yX10_holds ∈ lw_tbl := tb_7 _ (List.mem_of_getElem? (i := 5) rfl)
set_option maxRecDepth 20000 in
theorem t_354 : Cond.static yX10_holds ∈ lw_tbl := tb_7 _ (List.mem_of_getElem? (i := 6) rfl)
set_option maxRecDepth 20000 in
theorem t_355 : Cond.code yX10_areTwo cX10_areTwo 3 (some .boolean) ∈ lw_tbl := tb_6 _ (List.mem_of_getElem? (i := 224) rfl)
set_option maxRecDepth 20000 in
theorem t_356 : Cond.methodLink RX10 105 yX10_isHouse ∈ lw_tbl := tb_6 _ (List.mem_of_getElem? (i := 225) rfl)
set_option maxRecDepth 20000 in
theorem t_357 : Cond.instanceMethod yX10_isHouse ∈ lw_tbl := tb_6 _ (List.mem_of_getElem? (i := 227) rfl)
theorem t_358 : Cond.selects RX10 yX10_isHouse yX10_isHouse ∈ lw_tbl := List.mem_append_left _ (List.mem_of_getElem? (i := 65) (by decide +kernel))
set_option maxRecDepth 20000 in
theorem t_359 : Cond.code yX10_back cX10_back 3 (some .int) ∈ lw_tbl := tb_6 _ (List.mem_of_getElem? (i := 69) rfl)
set_option maxRecDepth 20000 in
theorem t_360 : Cond.constantLong RX10 99 (2) ∈ lw_tbl := tb_6 _ (List.mem_of_getElem? (i := 62) rfl)
set_option maxRecDepth 20000 in
theorem t_361 : Cond.fieldLink RX10 20 "CardBowlModel" "hasImage" "[Z" ∈ lw_tbl := tb_5 _ (List.mem_of_getElem? (i := 176) rfl)
set_option maxRecDepth 20000 in
theorem t_362 : Cond.fieldLink RX10 17 "CardBowlModel" "images" "[I" ∈ lw_tbl := tb_5 _ (List.mem_of_getElem? (i := 175) rfl)
set_option maxRecDepth 20000 in
theorem t_363 : Cond.code yX10_bars cX10_bars 4 (some .int) ∈ lw_tbl := tb_6 _ (List.mem_of_getElem? (i := 220) rfl)
set_option maxRecDepth 20000 in
theorem t_364 : Cond.methodLink RX10 315 yX10_areTwo ∈ lw_tbl := tb_6 _ (List.mem_of_getElem? (i := 221) rfl)
set_option maxRecDepth 20000 in
theorem t_365 : Cond.instanceMethod yX10_areTwo ∈ lw_tbl := tb_6 _ (List.mem_of_getElem? (i := 223) rfl)
theorem t_366 : Cond.selects RX10 yX10_areTwo yX10_areTwo ∈ lw_tbl := List.mem_append_left _ (List.mem_of_getElem? (i := 64) (by decide +kernel))
set_option maxRecDepth 20000 in
theorem t_367 : Cond.methodLink RX10 318 yX10_isPaying ∈ lw_tbl := tb_6 _ (List.mem_of_getElem? (i := 229) rfl)
set_option maxRecDepth 20000 in
theorem t_368 : Cond.static yX10_isPaying ∈ lw_tbl := tb_6 _ (List.mem_of_getElem? (i := 230) rfl)
set_option maxRecDepth 20000 in
theorem t_369 : Cond.methodLink RX10 321 yX10_barsOf ∈ lw_tbl := tb_6 _ (List.mem_of_getElem? (i := 233) rfl)
set_option maxRecDepth 20000 in
theorem t_370 : Cond.instanceMethod yX10_barsOf ∈ lw_tbl := tb_6 _ (List.mem_of_getElem? (i := 235) rfl)
theorem t_371 : Cond.selects RX10 yX10_barsOf yX10_barsOf ∈ lw_tbl := List.mem_append_left _ (List.mem_of_getElem? (i := 66) (by decide +kernel))
set_option maxRecDepth 20000 in
theorem t_372 : Cond.code yX10_barsOf cX10_barsOf 6 (some .int) ∈ lw_tbl := tb_6 _ (List.mem_of_getElem? (i := 236) rfl)
set_option maxRecDepth 20000 in
theorem t_373 : Cond.methodLink RX10 291 yX10_today ∈ lw_tbl := tb_6 _ (List.mem_of_getElem? (i := 213) rfl)
set_option maxRecDepth 20000 in
theorem t_374 : Cond.instanceMethod yX10_today ∈ lw_tbl := tb_6 _ (List.mem_of_getElem? (i := 215) rfl)
theorem t_375 : Cond.selects RX10 yX10_today yX10_today ∈ lw_tbl := List.mem_append_left _ (List.mem_of_getElem? (i := 63) (by decide +kernel))
set_option maxRecDepth 20000 in
theorem t_376 : Cond.methodLink RX10 301 yX10_isThere ∈ lw_tbl := tb_6 _ (List.mem_of_getElem? (i := 237) rfl)
set_option maxRecDepth 20000 in
theorem t_377 : Cond.instanceMethod yX10_isThere ∈ lw_tbl := tb_6 _ (List.mem_of_getElem? (i := 239) rfl)
theorem t_378 : Cond.selects RX10 yX10_isThere yX10_isThere ∈ lw_tbl := List.mem_append_left _ (List.mem_of_getElem? (i := 67) (by decide +kernel))
set_option maxRecDepth 20000 in
theorem t_379 : Cond.methodLink RX10 304 yX10_areKnown ∈ lw_tbl := tb_7 _ (List.mem_of_getElem? (i := 1) rfl)
set_option maxRecDepth 20000 in
theorem t_380 : Cond.instanceMethod yX10_areKnown ∈ lw_tbl := tb_7 _ (List.mem_of_getElem? (i := 3) rfl)
theorem t_381 : Cond.selects RX10 yX10_areKnown yX10_areKnown ∈ lw_tbl := List.mem_append_left _ (List.mem_of_getElem? (i := 68) (by decide +kernel))
set_option maxRecDepth 20000 in
theorem t_382 : Cond.methodLink RX10 307 yX10_isNew ∈ lw_tbl := tb_7 _ (List.mem_of_getElem? (i := 8) rfl)
set_option maxRecDepth 20000 in
theorem t_383 : Cond.instanceMethod yX10_isNew ∈ lw_tbl := tb_7 _ (List.mem_of_getElem? (i := 10) rfl)
theorem t_384 : Cond.selects RX10 yX10_isNew yX10_isNew ∈ lw_tbl := List.mem_append_left _ (List.mem_of_getElem? (i := 69) (by decide +kernel))
set_option maxRecDepth 20000 in
theorem t_385 : Cond.methodLink RX10 310 yX10_isIntroduced ∈ lw_tbl := tb_7 _ (List.mem_of_getElem? (i := 12) rfl)
set_option maxRecDepth 20000 in
theorem t_386 : Cond.instanceMethod yX10_isIntroduced ∈ lw_tbl := tb_7 _ (List.mem_of_getElem? (i := 14) rfl)
theorem t_387 : Cond.selects RX10 yX10_isIntroduced yX10_isIntroduced ∈ lw_tbl := List.mem_append_left _ (List.mem_of_getElem? (i := 70) (by decide +kernel))
set_option maxRecDepth 20000 in
theorem t_388 : Cond.methodLink RX10 286 yX10_ofHouse ∈ lw_tbl := tb_6 _ (List.mem_of_getElem? (i := 204) rfl)
set_option maxRecDepth 20000 in
theorem t_389 : Cond.instanceMethod yX10_ofHouse ∈ lw_tbl := tb_6 _ (List.mem_of_getElem? (i := 206) rfl)
theorem t_390 : Cond.selects RX10 yX10_ofHouse yX10_ofHouse ∈ lw_tbl := List.mem_append_left _ (List.mem_of_getElem? (i := 62) (by decide +kernel))
set_option maxRecDepth 20000 in
theorem t_391 : Cond.code yX10_beside cX10_beside 5 (some .int) ∈ lw_tbl := tb_8 _ (List.mem_of_getElem? (i := 12) rfl)
set_option maxRecDepth 20000 in
theorem t_392 : Cond.fieldLink RX10 83 "CardBowlModel" "saved" "[I" ∈ lw_tbl := tb_5 _ (List.mem_of_getElem? (i := 209) rfl)
set_option maxRecDepth 20000 in
theorem t_393 : Cond.methodLink RX10 364 yX10_goes ∈ lw_tbl := tb_7 _ (List.mem_of_getElem? (i := 31) rfl)
set_option maxRecDepth 20000 in
theorem t_394 : Cond.instanceMethod yX10_goes ∈ lw_tbl := tb_7 _ (List.mem_of_getElem? (i := 33) rfl)
theorem t_395 : Cond.selects RX10 yX10_goes yX10_goes ∈ lw_tbl := List.mem_append_left _ (List.mem_of_getElem? (i := 72) (by decide +kernel))
set_option maxRecDepth 20000 in
theorem t_396 : Cond.code yX10_callsAll cX10_callsAll 2 none ∈ lw_tbl := tb_7 _ (List.mem_of_getElem? (i := 230) rfl)
set_option maxRecDepth 20000 in
theorem t_397 : Cond.fieldLink RX10 80 "CardBowlModel" "calledOn" "[I" ∈ lw_tbl := tb_5 _ (List.mem_of_getElem? (i := 208) rfl)
set_option maxRecDepth 20000 in
theorem t_398 : Cond.constantLong RX10 313 (3) ∈ lw_tbl := tb_6 _ (List.mem_of_getElem? (i := 232) rfl)
set_option maxRecDepth 20000 in
theorem t_399 : Cond.code yX10_comes cX10_comes 7 none ∈ lw_tbl := tb_7 _ (List.mem_of_getElem? (i := 76) rfl)
set_option maxRecDepth 20000 in
theorem t_400 : Cond.code yX10_comesTo cX10_comesTo 5 (some .int) ∈ lw_tbl := tb_7 _ (List.mem_of_getElem? (i := 238) rfl)
set_option maxRecDepth 20000 in
theorem t_401 : Cond.code yX10_count cX10_count 4 (some .int) ∈ lw_tbl := tb_8 _ (List.mem_of_getElem? (i := 16) rfl)
set_option maxRecDepth 20000 in
theorem t_402 : Cond.methodLink RX10 325 yX10_ofDebt ∈ lw_tbl := tb_7 _ (List.mem_of_getElem? (i := 43) rfl)
set_option maxRecDepth 20000 in
theorem t_403 : Cond.instanceMethod yX10_ofDebt ∈ lw_tbl := tb_7 _ (List.mem_of_getElem? (i := 45) rfl)
theorem t_404 : Cond.selects RX10 yX10_ofDebt yX10_ofDebt ∈ lw_tbl := List.mem_append_left _ (List.mem_of_getElem? (i := 75) (by decide +kernel))
set_option maxRecDepth 20000 in
theorem t_405 : Cond.fieldLink RX10 109 "CardBowlModel" "taped" "I" ∈ lw_tbl := tb_5 _ (List.mem_of_getElem? (i := 178) rfl)
set_option maxRecDepth 20000 in
theorem t_406 : Cond.fieldLink RX10 86 "CardBowlModel" "many" "[I" ∈ lw_tbl := tb_5 _ (List.mem_of_getElem? (i := 210) rfl)
set_option maxRecDepth 20000 in
theorem t_407 : Cond.code yX10_covers cX10_covers 6 (some .int) ∈ lw_tbl := tb_7 _ (List.mem_of_getElem? (i := 186) rfl)
set_option maxRecDepth 20000 in
theorem t_408 : Cond.fieldLink RX10 438 "CardBowlModel" "tenMany" "I" ∈ lw_tbl := tb_5 _ (List.mem_of_getElem? (i := 199) rfl)
set_option maxRecDepth 20000 in
theorem t_409 : Cond.fieldLink RX10 393 "CardBowlModel" "houseMany" "I" ∈ lw_tbl := tb_5 _ (List.mem_of_getElem? (i := 190) rfl)
set_option maxRecDepth 20000 in
theorem t_410 : Cond.fieldLink RX10 40 "CardBowlModel" "houses" "[I" ∈ lw_tbl := tb_5 _ (List.mem_of_getElem? (i := 189) rfl)
set_option maxRecDepth 20000 in
theorem t_411 : Cond.fieldLink RX10 55 "CardBowlModel" "tenDebts" "[I" ∈ lw_tbl := tb_5 _ (List.mem_of_getElem? (i := 198) rfl)
set_option maxRecDepth 20000 in
theorem t_412 : Cond.code yX10_cut cX10_cut 4 (some .long) ∈ lw_tbl := tb_8 _ (List.mem_of_getElem? (i := 27) rfl)
set_option maxRecDepth 20000 in
theorem t_413 : Cond.code yX10_dayHere cX10_dayHere 1 (some .int) ∈ lw_tbl := tb_6 _ (List.mem_of_getElem? (i := 190) rfl)
set_option maxRecDepth 20000 in
theorem t_414 : Cond.methodLink RX10 162 yX10_is ∈ lw_tbl := tb_6 _ (List.mem_of_getElem? (i := 112) rfl)
set_option maxRecDepth 20000 in
theorem t_415 : Cond.instanceMethod yX10_is ∈ lw_tbl := tb_6 _ (List.mem_of_getElem? (i := 114) rfl)
theorem t_416 : Cond.selects RX10 yX10_is yX10_is ∈ lw_tbl := List.mem_append_left _ (List.mem_of_getElem? (i := 48) (by decide +kernel))
set_option maxRecDepth 20000 in
theorem t_417 : Cond.code yX10_days cX10_days 2 (some .int) ∈ lw_tbl := tb_6 _ (List.mem_of_getElem? (i := 211) rfl)
set_option maxRecDepth 20000 in
theorem t_418 : Cond.constantLong RX10 289 (60) ∈ lw_tbl := tb_6 _ (List.mem_of_getElem? (i := 212) rfl)
set_option maxRecDepth 20000 in
theorem t_419 : Cond.code yX10_debt cX10_debt 5 (some .int) ∈ lw_tbl := tb_7 _ (List.mem_of_getElem? (i := 99) rfl)
set_option maxRecDepth 20000 in
theorem t_420 : Cond.methodLink RX10 384 yX10_placeOf ∈ lw_tbl := tb_7 _ (List.mem_of_getElem? (i := 100) rfl)
set_option maxRecDepth 20000 in
theorem t_421 : Cond.instanceMethod yX10_placeOf ∈ lw_tbl := tb_7 _ (List.mem_of_getElem? (i := 102) rfl)
theorem t_422 : Cond.selects RX10 yX10_placeOf yX10_placeOf ∈ lw_tbl := List.mem_append_left _ (List.mem_of_getElem? (i := 83) (by decide +kernel))
set_option maxRecDepth 20000 in
theorem t_423 : Cond.code yX10_debts cX10_debts 2 (some .int) ∈ lw_tbl := tb_7 _ (List.mem_of_getElem? (i := 95) rfl)
set_option maxRecDepth 20000 in
theorem t_424 : Cond.methodLink RX10 339 yX10_debtsOf ∈ lw_tbl := tb_7 _ (List.mem_of_getElem? (i := 55) rfl)
set_option maxRecDepth 20000 in
theorem t_425 : Cond.instanceMethod yX10_debtsOf ∈ lw_tbl := tb_7 _ (List.mem_of_getElem? (i := 57) rfl)
theorem t_426 : Cond.selects RX10 yX10_debtsOf yX10_debtsOf ∈ lw_tbl := List.mem_append_left _ (List.mem_of_getElem? (i := 78) (by decide +kernel))
set_option maxRecDepth 20000 in
theorem t_427 : Cond.code yX10_debtsOf cX10_debtsOf 4 (some .int) ∈ lw_tbl := tb_7 _ (List.mem_of_getElem? (i := 58) rfl)
set_option maxRecDepth 20000 in
theorem t_428 : Cond.code yX10_does cX10_does 4 (some .int) ∈ lw_tbl := tb_7 _ (List.mem_of_getElem? (i := 26) rfl)
set_option maxRecDepth 20000 in
theorem t_429 : Cond.methodLink RX10 368 yX10_notes ∈ lw_tbl := tb_7 _ (List.mem_of_getElem? (i := 27) rfl)
set_option maxRecDepth 20000 in
theorem t_430 : Cond.instanceMethod yX10_notes ∈ lw_tbl := tb_7 _ (List.mem_of_getElem? (i := 29) rfl)
theorem t_431 : Cond.selects RX10 yX10_notes yX10_notes ∈ lw_tbl := List.mem_append_left _ (List.mem_of_getElem? (i := 71) (by decide +kernel))
set_option maxRecDepth 20000 in
theorem t_432 : Cond.code yX10_done cX10_done 11 (some .int) ∈ lw_tbl := tb_7 _ (List.mem_of_getElem? (i := 84) rfl)
set_option maxRecDepth 20000 in
theorem t_433 : Cond.methodLink RX10 371 yX10_isSlot ∈ lw_tbl := tb_7 _ (List.mem_of_getElem? (i := 85) rfl)
set_option maxRecDepth 20000 in
theorem t_434 : Cond.static yX10_isSlot ∈ lw_tbl := tb_7 _ (List.mem_of_getElem? (i := 86) rfl)
set_option maxRecDepth 20000 in
theorem t_435 : Cond.fieldLink RX10 92 "CardBowlModel" "numbers" "[J" ∈ lw_tbl := tb_5 _ (List.mem_of_getElem? (i := 212) rfl)
set_option maxRecDepth 20000 in
theorem t_436 : Cond.constantLong RX10 374 (16) ∈ lw_tbl := tb_7 _ (List.mem_of_getElem? (i := 88) rfl)
set_option maxRecDepth 20000 in
theorem t_437 : Cond.constantLong RX10 376 (4) ∈ lw_tbl := tb_7 _ (List.mem_of_getElem? (i := 89) rfl)
set_option maxRecDepth 20000 in
theorem t_438 : Cond.methodLink RX10 378 yX10_meet ∈ lw_tbl := tb_7 _ (List.mem_of_getElem? (i := 90) rfl)
set_option maxRecDepth 20000 in
theorem t_439 : Cond.methodLink RX10 381 yX10_does ∈ lw_tbl := tb_7 _ (List.mem_of_getElem? (i := 91) rfl)
set_option maxRecDepth 20000 in
theorem t_440 : Cond.code yX10_drop cX10_drop 5 (some .int) ∈ lw_tbl := tb_7 _ (List.mem_of_getElem? (i := 218) rfl)
set_option maxRecDepth 20000 in
theorem t_441 : Cond.methodLink RX10 390 yX10_weighs ∈ lw_tbl := tb_7 _ (List.mem_of_getElem? (i := 137) rfl)
set_option maxRecDepth 20000 in
theorem t_442 : Cond.instanceMethod yX10_weighs ∈ lw_tbl := tb_7 _ (List.mem_of_getElem? (i := 139) rfl)
theorem t_443 : Cond.selects RX10 yX10_weighs yX10_weighs ∈ lw_tbl := List.mem_append_left _ (List.mem_of_getElem? (i := 88) (by decide +kernel))
set_option maxRecDepth 20000 in
theorem t_444 : Cond.methodLink RX10 456 yX10_hangs ∈ lw_tbl := tb_7 _ (List.mem_of_getElem? (i := 211) rfl)
set_option maxRecDepth 20000 in
theorem t_445 : Cond.instanceMethod yX10_hangs ∈ lw_tbl := tb_7 _ (List.mem_of_getElem? (i := 213) rfl)
theorem t_446 : Cond.selects RX10 yX10_hangs yX10_hangs ∈ lw_tbl := List.mem_append_left _ (List.mem_of_getElem? (i := 98) (by decide +kernel))
set_option maxRecDepth 20000 in
theorem t_447 : Cond.methodLink RX10 298 yX10_ones ∈ lw_tbl := tb_7 _ (List.mem_of_getElem? (i := 16) rfl)
set_option maxRecDepth 20000 in
theorem t_448 : Cond.static yX10_ones ∈ lw_tbl := tb_7 _ (List.mem_of_getElem? (i := 17) rfl)
set_option maxRecDepth 20000 in
theorem t_449 : Cond.fieldLink RX10 43 "CardBowlModel" "worthOf" "[I" ∈ lw_tbl := tb_5 _ (List.mem_of_getElem? (i := 191) rfl)
set_option maxRecDepth 20000 in
theorem t_450 : Cond.code yX10_drops cX10_drops 3 none ∈ lw_tbl := tb_7 _ (List.mem_of_getElem? (i := 50) rfl)
set_option maxRecDepth 20000 in
theorem t_451 : Cond.code yX10_end cX10_end 2 (some .int) ∈ lw_tbl := tb_6 _ (List.mem_of_getElem? (i := 77) rfl)
set_option maxRecDepth 20000 in
theorem t_452 : Cond.code yX10_errs cX10_errs 2 none ∈ lw_tbl := tb_6 _ (List.mem_of_getElem? (i := 128) rfl)
set_option maxRecDepth 20000 in
theorem t_453 : Cond.methodLink RX10 148 yX10_good ∈ lw_tbl := tb_6 _ (List.mem_of_getElem? (i := 99) rfl)
set_option maxRecDepth 20000 in
theorem t_454 : Cond.instanceMethod yX10_good ∈ lw_tbl := tb_6 _ (List.mem_of_getElem? (i := 101) rfl)
theorem t_455 : Cond.selects RX10 yX10_good yX10_good ∈ lw_tbl := List.mem_append_left _ (List.mem_of_getElem? (i := 45) (by decide +kernel))
set_option maxRecDepth 20000 in
theorem t_456 : Cond.fieldLink RX10 145 "CardBowlModel" "faultKind" "I" ∈ lw_tbl := tb_5 _ (List.mem_of_getElem? (i := 185) rfl)
set_option maxRecDepth 20000 in
theorem t_457 : Cond.fieldLink RX10 31 "CardBowlModel" "faultPlace" "I" ∈ lw_tbl := tb_5 _ (List.mem_of_getElem? (i := 186) rfl)
set_option maxRecDepth 20000 in
theorem t_458 : Cond.code yX10_fault cX10_fault 2 (some .int) ∈ lw_tbl := tb_6 _ (List.mem_of_getElem? (i := 81) rfl)
set_option maxRecDepth 20000 in
theorem t_459 : Cond.code yX10_feed cX10_feed 7 (some .int) ∈ lw_tbl := tb_6 _ (List.mem_of_getElem? (i := 73) rfl)
set_option maxRecDepth 20000 in
theorem t_460 : Cond.fieldLink RX10 28 "CardBowlModel" "five" "[I" ∈ lw_tbl := tb_5 _ (List.mem_of_getElem? (i := 179) rfl)
set_option maxRecDepth 20000 in
theorem t_461 : Cond.fieldLink RX10 24 "CardBowlModel" "tape" "[B" ∈ lw_tbl := tb_5 _ (List.mem_of_getElem? (i := 177) rfl)
set_option maxRecDepth 20000 in
theorem t_462 : Cond.code yX10_fewest cX10_fewest 7 (some .int) ∈ lw_tbl := tb_7 _ (List.mem_of_getElem? (i := 178) rfl)
set_option maxRecDepth 20000 in
theorem t_463 : Cond.methodLink RX10 441 yX10_listsTen ∈ lw_tbl := tb_7 _ (List.mem_of_getElem? (i := 179) rfl)
set_option maxRecDepth 20000 in
theorem t_464 : Cond.instanceMethod yX10_listsTen ∈ lw_tbl := tb_7 _ (List.mem_of_getElem? (i := 181) rfl)
theorem t_465 : Cond.selects RX10 yX10_listsTen yX10_listsTen ∈ lw_tbl := List.mem_append_left _ (List.mem_of_getElem? (i := 94) (by decide +kernel))
set_option maxRecDepth 20000 in
theorem t_466 : Cond.fieldLink RX10 58 "CardBowlModel" "fewestBy" "[I" ∈ lw_tbl := tb_5 _ (List.mem_of_getElem? (i := 200) rfl)
set_option maxRecDepth 20000 in
theorem t_467 : Cond.methodLink RX10 411 yX10_goesThrough ∈ lw_tbl := tb_7 _ (List.mem_of_getElem? (i := 141) rfl)
set_option maxRecDepth 20000 in
theorem t_468 : Cond.instanceMethod yX10_goesThrough ∈ lw_tbl := tb_7 _ (List.mem_of_getElem? (i := 143) rfl)
theorem t_469 : Cond.selects RX10 yX10_goesThrough yX10_goesThrough ∈ lw_tbl := List.mem_append_left _ (List.mem_of_getElem? (i := 89) (by decide +kernel))
set_option maxRecDepth 20000 in
theorem t_470 : Cond.fieldLink RX10 61 "CardBowlModel" "covered" "[I" ∈ lw_tbl := tb_5 _ (List.mem_of_getElem? (i := 201) rfl)
set_option maxRecDepth 20000 in
theorem t_471 : Cond.methodLink RX10 424 yX10_overOf ∈ lw_tbl := tb_7 _ (List.mem_of_getElem? (i := 155) rfl)
set_option maxRecDepth 20000 in
theorem t_472 : Cond.instanceMethod yX10_overOf ∈ lw_tbl := tb_7 _ (List.mem_of_getElem? (i := 157) rfl)
theorem t_473 : Cond.selects RX10 yX10_overOf yX10_overOf ∈ lw_tbl := List.mem_append_left _ (List.mem_of_getElem? (i := 92) (by decide +kernel))
set_option maxRecDepth 20000 in
theorem t_474 : Cond.methodLink RX10 444 yX10_covers ∈ lw_tbl := tb_7 _ (List.mem_of_getElem? (i := 183) rfl)
set_option maxRecDepth 20000 in
theorem t_475 : Cond.instanceMethod yX10_covers ∈ lw_tbl := tb_7 _ (List.mem_of_getElem? (i := 185) rfl)
theorem t_476 : Cond.selects RX10 yX10_covers yX10_covers ∈ lw_tbl := List.mem_append_left _ (List.mem_of_getElem? (i := 95) (by decide +kernel))
set_option maxRecDepth 20000 in
theorem t_477 : Cond.code yX10_finds cX10_finds 7 (some .boolean) ∈ lw_tbl := tb_7 _ (List.mem_of_getElem? (i := 198) rfl)
set_option maxRecDepth 20000 in
theorem t_478 : Cond.fieldLink RX10 74 "CardBowlModel" "met" "[Z" ∈ lw_tbl := tb_5 _ (List.mem_of_getElem? (i := 205) rfl)
set_option maxRecDepth 20000 in
theorem t_479 : Cond.fieldLink RX10 65 "CardBowlModel" "queue" "[I" ∈ lw_tbl := tb_5 _ (List.mem_of_getElem? (i := 202) rfl)
set_option maxRecDepth 20000 in
theorem t_480 : Cond.fieldLink RX10 71 "CardBowlModel" "parent" "[I" ∈ lw_tbl := tb_5 _ (List.mem_of_getElem? (i := 204) rfl)
set_option maxRecDepth 20000 in
theorem t_481 : Cond.fieldLink RX10 68 "CardBowlModel" "cameBy" "[I" ∈ lw_tbl := tb_5 _ (List.mem_of_getElem? (i := 203) rfl)
set_option maxRecDepth 20000 in
theorem t_482 : Cond.methodLink RX10 447 yX10_walks ∈ lw_tbl := tb_7 _ (List.mem_of_getElem? (i := 199) rfl)
set_option maxRecDepth 20000 in
theorem t_483 : Cond.instanceMethod yX10_walks ∈ lw_tbl := tb_7 _ (List.mem_of_getElem? (i := 201) rfl)
theorem t_484 : Cond.selects RX10 yX10_walks yX10_walks ∈ lw_tbl := List.mem_append_left _ (List.mem_of_getElem? (i := 97) (by decide +kernel))
set_option maxRecDepth 20000 in
theorem t_485 : Cond.code yX10_first cX10_first 5 (some .int) ∈ lw_tbl := tb_7 _ (List.mem_of_getElem? (i := 115) rfl)
set_option maxRecDepth 20000 in
theorem t_486 : Cond.methodLink RX10 387 yX10_slightsOf ∈ lw_tbl := tb_7 _ (List.mem_of_getElem? (i := 108) rfl)
set_option maxRecDepth 20000 in
theorem t_487 : Cond.instanceMethod yX10_slightsOf ∈ lw_tbl := tb_7 _ (List.mem_of_getElem? (i := 110) rfl)
theorem t_488 : Cond.selects RX10 yX10_slightsOf yX10_slightsOf ∈ lw_tbl := List.mem_append_left _ (List.mem_of_getElem? (i := 84) (by decide +kernel))
set_option maxRecDepth 20000 in
theorem t_489 : Cond.code yX10_goes cX10_goes 8 (some .int) ∈ lw_tbl := tb_7 _ (List.mem_of_getElem? (i := 34) rfl)
set_option maxRecDepth 20000 in
theorem t_490 : Cond.methodLink RX10 345 yX10_meets ∈ lw_tbl := tb_7 _ (List.mem_of_getElem? (i := 35) rfl)
set_option maxRecDepth 20000 in
theorem t_491 : Cond.instanceMethod yX10_meets ∈ lw_tbl := tb_7 _ (List.mem_of_getElem? (i := 37) rfl)
theorem t_492 : Cond.selects RX10 yX10_meets yX10_meets ∈ lw_tbl := List.mem_append_left _ (List.mem_of_getElem? (i := 73) (by decide +kernel))
set_option maxRecDepth 20000 in
theorem t_493 : Cond.methodLink RX10 349 yX10_pays ∈ lw_tbl := tb_7 _ (List.mem_of_getElem? (i := 39) rfl)
set_option maxRecDepth 20000 in
theorem t_494 : Cond.instanceMethod yX10_pays ∈ lw_tbl := tb_7 _ (List.mem_of_getElem? (i := 41) rfl)
theorem t_495 : Cond.selects RX10 yX10_pays yX10_pays ∈ lw_tbl := List.mem_append_left _ (List.mem_of_getElem? (i := 74) (by decide +kernel))
set_option maxRecDepth 20000 in
theorem t_496 : Cond.methodLink RX10 352 yX10_lineFor ∈ lw_tbl := tb_7 _ (List.mem_of_getElem? (i := 51) rfl)
set_option maxRecDepth 20000 in
theorem t_497 : Cond.instanceMethod yX10_lineFor ∈ lw_tbl := tb_7 _ (List.mem_of_getElem? (i := 53) rfl)
theorem t_498 : Cond.selects RX10 yX10_lineFor yX10_lineFor ∈ lw_tbl := List.mem_append_left _ (List.mem_of_getElem? (i := 77) (by decide +kernel))
set_option maxRecDepth 20000 in
theorem t_499 : Cond.methodLink RX10 356 yX10_owesAlready ∈ lw_tbl := tb_7 _ (List.mem_of_getElem? (i := 69) rfl)
set_option maxRecDepth 20000 in
theorem t_500 : Cond.instanceMethod yX10_owesAlready ∈ lw_tbl := tb_7 _ (List.mem_of_getElem? (i := 71) rfl)
theorem t_501 : Cond.selects RX10 yX10_owesAlready yX10_owesAlready ∈ lw_tbl := List.mem_append_left _ (List.mem_of_getElem? (i := 81) (by decide +kernel))
set_option maxRecDepth 20000 in
theorem t_502 : Cond.methodLink RX10 360 yX10_comes ∈ lw_tbl := tb_7 _ (List.mem_of_getElem? (i := 73) rfl)
set_option maxRecDepth 20000 in
theorem t_503 : Cond.instanceMethod yX10_comes ∈ lw_tbl := tb_7 _ (List.mem_of_getElem? (i := 75) rfl)
theorem t_504 : Cond.selects RX10 yX10_comes yX10_comes ∈ lw_tbl := List.mem_append_left _ (List.mem_of_getElem? (i := 82) (by decide +kernel))
set_option maxRecDepth 20000 in
theorem t_505 : Cond.code yX10_goesThrough cX10_goesThrough 11 none ∈ lw_tbl := tb_7 _ (List.mem_of_getElem? (i := 144) rfl)
set_option maxRecDepth 20000 in
theorem t_506 : Cond.fieldLink RX10 49 "CardBowlModel" "over" "[I" ∈ lw_tbl := tb_5 _ (List.mem_of_getElem? (i := 193) rfl)
set_option maxRecDepth 20000 in
theorem t_507 : Cond.methodLink RX10 405 yX10_seen ∈ lw_tbl := tb_7 _ (List.mem_of_getElem? (i := 145) rfl)
set_option maxRecDepth 20000 in
theorem t_508 : Cond.instanceMethod yX10_seen ∈ lw_tbl := tb_7 _ (List.mem_of_getElem? (i := 147) rfl)
theorem t_509 : Cond.selects RX10 yX10_seen yX10_seen ∈ lw_tbl := List.mem_append_left _ (List.mem_of_getElem? (i := 90) (by decide +kernel))
set_option maxRecDepth 20000 in
theorem t_510 : Cond.code yX10_good cX10_good 1 (some .boolean) ∈ lw_tbl := tb_6 _ (List.mem_of_getElem? (i := 102) rfl)
set_option maxRecDepth 20000 in
theorem t_511 : Cond.code yX10_hangs cX10_hangs 8 (some .int) ∈ lw_tbl := tb_7 _ (List.mem_of_getElem? (i := 214) rfl)
set_option maxRecDepth 20000 in
theorem t_512 : Cond.code yX10_holds cX10_holds 2 (some .boolean) ∈ lw_tbl := tb_7 _ (List.mem_of_getElem? (i := 7) rfl)
set_option maxRecDepth 20000 in
theorem t_513 : Cond.code yX10_house cX10_house 5 (some .int) ∈ lw_tbl := tb_8 _ (List.mem_of_getElem? (i := 6) rfl)
set_option maxRecDepth 20000 in
theorem t_514 : Cond.constantLong RX10 468 (8) ∈ lw_tbl := tb_8 _ (List.mem_of_getElem? (i := 7) rfl)
set_option maxRecDepth 20000 in
theorem t_515 : Cond.constant RX10 470 (-2000000000) ∈ lw_tbl := tb_8 _ (List.mem_of_getElem? (i := 8) rfl)
set_option maxRecDepth 20000 in
theorem t_516 : Cond.code yX10_in cX10_in 6 (some .boolean) ∈ lw_tbl := tb_6 _ (List.mem_of_getElem? (i := 65) rfl)
set_option maxRecDepth 20000 in
theorem t_517 : Cond.code yX10_init cX10_init 1 none ∈ lw_tbl := tb_5 _ (List.mem_of_getElem? (i := 171) rfl)
set_option maxRecDepth 20000 in
theorem t_518 : Cond.methodLink RX10 7 objectInit ∈ lw_tbl := tb_5 _ (List.mem_of_getElem? (i := 172) rfl)
set_option maxRecDepth 20000 in
theorem t_519 : Cond.arrayClass .boolean ∈ lw_tbl := tb_6 _ (List.mem_of_getElem? (i := 57) rfl)
set_option maxRecDepth 20000 in
theorem t_520 : Cond.arrayClass .byte ∈ lw_tbl := tb_1 _ (List.mem_of_getElem? (i := 109) rfl)
set_option maxRecDepth 20000 in
theorem t_521 : Cond.fieldLink RX10 34 "CardBowlModel" "fresh" "[I" ∈ lw_tbl := tb_5 _ (List.mem_of_getElem? (i := 187) rfl)
set_option maxRecDepth 20000 in
theorem t_522 : Cond.fieldLink RX10 37 "CardBowlModel" "parts" "[I" ∈ lw_tbl := tb_5 _ (List.mem_of_getElem? (i := 188) rfl)
set_option maxRecDepth 20000 in
theorem t_523 : Cond.fieldLink RX10 46 "CardBowlModel" "byCall" "[Z" ∈ lw_tbl := tb_5 _ (List.mem_of_getElem? (i := 192) rfl)
set_option maxRecDepth 20000 in
theorem t_524 : Cond.fieldLink RX10 52 "CardBowlModel" "row" "[I" ∈ lw_tbl := tb_5 _ (List.mem_of_getElem? (i := 197) rfl)
set_option maxRecDepth 20000 in
theorem t_525 : Cond.constant RX10 64 (65536) ∈ lw_tbl := tb_5 _ (List.mem_of_getElem? (i := 173) rfl)
set_option maxRecDepth 20000 in
theorem t_526 : Cond.fieldLink RX10 77 "CardBowlModel" "calls" "[I" ∈ lw_tbl := tb_5 _ (List.mem_of_getElem? (i := 206) rfl)
set_option maxRecDepth 20000 in
theorem t_527 : Cond.fieldLink RX10 89 "CardBowlModel" "width" "[I" ∈ lw_tbl := tb_5 _ (List.mem_of_getElem? (i := 211) rfl)
set_option maxRecDepth 20000 in
theorem t_528 : Cond.arrayClass .long ∈ lw_tbl := tb_2 _ (List.mem_of_getElem? (i := 202) rfl)
set_option maxRecDepth 20000 in
theorem t_529 : Cond.fieldLink RX10 96 "CardBowlModel" "moving" "[J" ∈ lw_tbl := tb_5 _ (List.mem_of_getElem? (i := 213) rfl)
set_option maxRecDepth 20000 in
theorem t_530 : Cond.code yX10_is cX10_is 4 (some .boolean) ∈ lw_tbl := tb_6 _ (List.mem_of_getElem? (i := 115) rfl)
set_option maxRecDepth 20000 in
theorem t_531 : Cond.methodLink RX10 152 yJ0_length_8abf5 ∈ lw_tbl := tb_6 _ (List.mem_of_getElem? (i := 116) rfl)
set_option maxRecDepth 20000 in
theorem t_532 : Cond.instanceMethod yJ0_length_8abf5 ∈ lw_tbl := tb_3 _ (List.mem_of_getElem? (i := 47) rfl)
set_option maxRecDepth 20000 in
theorem t_533 : Cond.selects RJ0 yJ0_length_8abf5 yJ0_length_8abf5 ∈ lw_tbl := tb_3 _ (List.mem_of_getElem? (i := 48) rfl)
set_option maxRecDepth 20000 in
theorem t_534 : Cond.methodLink RX10 158 yJ0_charAt_5068e ∈ lw_tbl := tb_6 _ (List.mem_of_getElem? (i := 117) rfl)
set_option maxRecDepth 20000 in
theorem t_535 : Cond.instanceMethod yJ0_charAt_5068e ∈ lw_tbl := tb_3 _ (List.mem_of_getElem? (i := 57) rfl)
set_option maxRecDepth 20000 in
theorem t_536 : Cond.selects RJ0 yJ0_charAt_5068e yJ0_charAt_5068e ∈ lw_tbl := tb_3 _ (List.mem_of_getElem? (i := 58) rfl)
set_option maxRecDepth 20000 in
theorem t_537 : Cond.code yX10_isHouse cX10_isHouse 2 (some .boolean) ∈ lw_tbl := tb_6 _ (List.mem_of_getElem? (i := 228) rfl)
set_option maxRecDepth 20000 in
theorem t_538 : Cond.code yX10_isIntroduced cX10_isIntroduced 3 (some .boolean) ∈ lw_tbl := tb_7 _ (List.mem_of_getElem? (i := 15) rfl)
set_option maxRecDepth 20000 in
theorem t_539 : Cond.code yX10_isNew cX10_isNew 2 (some .boolean) ∈ lw_tbl := tb_7 _ (List.mem_of_getElem? (i := 11) rfl)
set_option maxRecDepth 20000 in
theorem t_540 : Cond.code yX10_isPaying cX10_isPaying 1 (some .boolean) ∈ lw_tbl := tb_6 _ (List.mem_of_getElem? (i := 231) rfl)
set_option maxRecDepth 20000 in
theorem t_541 : Cond.code yX10_isRound cX10_isRound 3 (some .boolean) ∈ lw_tbl := tb_7 _ (List.mem_of_getElem? (i := 127) rfl)
set_option maxRecDepth 20000 in
theorem t_542 : Cond.constantLong RX10 427 (399) ∈ lw_tbl := tb_7 _ (List.mem_of_getElem? (i := 128) rfl)
set_option maxRecDepth 20000 in
theorem t_543 : Cond.code yX10_isSlot cX10_isSlot 1 (some .boolean) ∈ lw_tbl := tb_7 _ (List.mem_of_getElem? (i := 87) rfl)
set_option maxRecDepth 20000 in
theorem t_544 : Cond.code yX10_isThere cX10_isThere 3 (some .boolean) ∈ lw_tbl := tb_7 _ (List.mem_of_getElem? (i := 0) rfl)
set_option maxRecDepth 20000 in
theorem t_545 : Cond.code yX10_keep cX10_keep 3 (some .int) ∈ lw_tbl := tb_6 _ (List.mem_of_getElem? (i := 61) rfl)
set_option maxRecDepth 20000 in
theorem t_546 : Cond.code yX10_known cX10_known 3 (some .int) ∈ lw_tbl := tb_7 _ (List.mem_of_getElem? (i := 22) rfl)
set_option maxRecDepth 20000 in
theorem t_547 : Cond.code yX10_lineFor cX10_lineFor 10 (some .int) ∈ lw_tbl := tb_7 _ (List.mem_of_getElem? (i := 54) rfl)
set_option maxRecDepth 20000 in
theorem t_548 : Cond.methodLink RX10 342 yX10_testHolds ∈ lw_tbl := tb_7 _ (List.mem_of_getElem? (i := 59) rfl)
set_option maxRecDepth 20000 in
theorem t_549 : Cond.instanceMethod yX10_testHolds ∈ lw_tbl := tb_7 _ (List.mem_of_getElem? (i := 61) rfl)
theorem t_550 : Cond.selects RX10 yX10_testHolds yX10_testHolds ∈ lw_tbl := List.mem_append_left _ (List.mem_of_getElem? (i := 79) (by decide +kernel))
set_option maxRecDepth 20000 in
theorem t_551 : Cond.code yX10_lists cX10_lists 3 none ∈ lw_tbl := tb_7 _ (List.mem_of_getElem? (i := 136) rfl)
set_option maxRecDepth 20000 in
theorem t_552 : Cond.code yX10_listsTen cX10_listsTen 4 none ∈ lw_tbl := tb_7 _ (List.mem_of_getElem? (i := 182) rfl)
set_option maxRecDepth 20000 in
theorem t_553 : Cond.code yX10_lost cX10_lost 6 (some .int) ∈ lw_tbl := tb_7 _ (List.mem_of_getElem? (i := 190) rfl)
set_option maxRecDepth 20000 in
theorem t_554 : Cond.code yX10_may cX10_may 11 (some .int) ∈ lw_tbl := tb_7 _ (List.mem_of_getElem? (i := 174) rfl)
set_option maxRecDepth 20000 in
theorem t_555 : Cond.methodLink RX10 429 yX10_isRound ∈ lw_tbl := tb_7 _ (List.mem_of_getElem? (i := 124) rfl)
set_option maxRecDepth 20000 in
theorem t_556 : Cond.instanceMethod yX10_isRound ∈ lw_tbl := tb_7 _ (List.mem_of_getElem? (i := 126) rfl)
theorem t_557 : Cond.selects RX10 yX10_isRound yX10_isRound ∈ lw_tbl := List.mem_append_left _ (List.mem_of_getElem? (i := 85) (by decide +kernel))
set_option maxRecDepth 20000 in
theorem t_558 : Cond.code yX10_meet cX10_meet 4 (some .int) ∈ lw_tbl := tb_7 _ (List.mem_of_getElem? (i := 80) rfl)
set_option maxRecDepth 20000 in
theorem t_559 : Cond.code yX10_meets cX10_meets 3 none ∈ lw_tbl := tb_7 _ (List.mem_of_getElem? (i := 38) rfl)
set_option maxRecDepth 20000 in
theorem t_560 : Cond.code yX10_minutes cX10_minutes 3 (some .int) ∈ lw_tbl := tb_7 _ (List.mem_of_getElem? (i := 152) rfl)
set_option maxRecDepth 20000 in
theorem t_561 : Cond.methodLink RX10 396 Lib.Math.abs.name ∈ lw_tbl := tb_7 _ (List.mem_of_getElem? (i := 153) rfl)
set_option maxRecDepth 20000 in
theorem t_562 : Cond.static Lib.Math.abs.name ∈ lw_tbl := tb_4 _ (List.mem_of_getElem? (i := 145) rfl)
set_option maxRecDepth 20000 in
theorem t_563 : Cond.code Lib.Math.abs.name Lib.Math.abs.code 1 (some .int) ∈ lw_tbl := tb_4 _ (List.mem_of_getElem? (i := 146) rfl)
set_option maxRecDepth 20000 in
theorem t_564 : Cond.code yX10_needs cX10_needs 2 none ∈ lw_tbl := tb_6 _ (List.mem_of_getElem? (i := 141) rfl)
set_option maxRecDepth 20000 in
theorem t_565 : Cond.methodLink RX10 169 yX10_takes ∈ lw_tbl := tb_6 _ (List.mem_of_getElem? (i := 142) rfl)
set_option maxRecDepth 20000 in
theorem t_566 : Cond.instanceMethod yX10_takes ∈ lw_tbl := tb_6 _ (List.mem_of_getElem? (i := 144) rfl)
theorem t_567 : Cond.selects RX10 yX10_takes yX10_takes ∈ lw_tbl := List.mem_append_left _ (List.mem_of_getElem? (i := 53) (by decide +kernel))
set_option maxRecDepth 20000 in
theorem t_568 : Cond.methodLink RX10 172 yX10_errs ∈ lw_tbl := tb_6 _ (List.mem_of_getElem? (i := 125) rfl)
set_option maxRecDepth 20000 in
theorem t_569 : Cond.instanceMethod yX10_errs ∈ lw_tbl := tb_6 _ (List.mem_of_getElem? (i := 127) rfl)
theorem t_570 : Cond.selects RX10 yX10_errs yX10_errs ∈ lw_tbl := List.mem_append_left _ (List.mem_of_getElem? (i := 49) (by decide +kernel))
set_option maxRecDepth 20000 in
theorem t_571 : Cond.code yX10_notes cX10_notes 6 (some .int) ∈ lw_tbl := tb_7 _ (List.mem_of_getElem? (i := 30) rfl)
set_option maxRecDepth 20000 in
theorem t_572 : Cond.code yX10_number cX10_number 4 (some .int) ∈ lw_tbl := tb_6 _ (List.mem_of_getElem? (i := 154) rfl)
set_option maxRecDepth 20000 in
theorem t_573 : Cond.methodLink RX10 166 yX10_advance ∈ lw_tbl := tb_6 _ (List.mem_of_getElem? (i := 86) rfl)
set_option maxRecDepth 20000 in
theorem t_574 : Cond.instanceMethod yX10_advance ∈ lw_tbl := tb_6 _ (List.mem_of_getElem? (i := 88) rfl)
theorem t_575 : Cond.selects RX10 yX10_advance yX10_advance ∈ lw_tbl := List.mem_append_left _ (List.mem_of_getElem? (i := 43) (by decide +kernel))
set_option maxRecDepth 20000 in
theorem t_576 : Cond.code yX10_ofDebt cX10_ofDebt 3 (some .int) ∈ lw_tbl := tb_7 _ (List.mem_of_getElem? (i := 46) rfl)
set_option maxRecDepth 20000 in
theorem t_577 : Cond.code yX10_ofHouse cX10_ofHouse 3 (some .int) ∈ lw_tbl := tb_6 _ (List.mem_of_getElem? (i := 207) rfl)
set_option maxRecDepth 20000 in
theorem t_578 : Cond.code yX10_ones cX10_ones 3 (some .int) ∈ lw_tbl := tb_7 _ (List.mem_of_getElem? (i := 18) rfl)
set_option maxRecDepth 20000 in
theorem t_579 : Cond.code yX10_over cX10_over 3 (some .int) ∈ lw_tbl := tb_7 _ (List.mem_of_getElem? (i := 162) rfl)
set_option maxRecDepth 20000 in
theorem t_580 : Cond.methodLink RX10 432 yX10_rounds ∈ lw_tbl := tb_7 _ (List.mem_of_getElem? (i := 129) rfl)
set_option maxRecDepth 20000 in
theorem t_581 : Cond.instanceMethod yX10_rounds ∈ lw_tbl := tb_7 _ (List.mem_of_getElem? (i := 131) rfl)
theorem t_582 : Cond.selects RX10 yX10_rounds yX10_rounds ∈ lw_tbl := List.mem_append_left _ (List.mem_of_getElem? (i := 86) (by decide +kernel))
set_option maxRecDepth 20000 in
theorem t_583 : Cond.fieldLink RX10 418 "CardBowlModel" "bestOver" "I" ∈ lw_tbl := tb_5 _ (List.mem_of_getElem? (i := 195) rfl)
set_option maxRecDepth 20000 in
theorem t_584 : Cond.code yX10_overOf cX10_overOf 5 (some .int) ∈ lw_tbl := tb_7 _ (List.mem_of_getElem? (i := 158) rfl)
set_option maxRecDepth 20000 in
theorem t_585 : Cond.code yX10_owes cX10_owes 6 (some .int) ∈ lw_tbl := tb_7 _ (List.mem_of_getElem? (i := 119) rfl)
set_option maxRecDepth 20000 in
theorem t_586 : Cond.code yX10_owesAlready cX10_owesAlready 5 (some .boolean) ∈ lw_tbl := tb_7 _ (List.mem_of_getElem? (i := 72) rfl)
set_option maxRecDepth 20000 in
theorem t_587 : Cond.code yX10_partOf cX10_partOf 3 (some .long) ∈ lw_tbl := tb_7 _ (List.mem_of_getElem? (i := 66) rfl)
set_option maxRecDepth 20000 in
theorem t_588 : Cond.code yX10_paste cX10_paste 7 (some .int) ∈ lw_tbl := tb_8 _ (List.mem_of_getElem? (i := 31) rfl)
set_option maxRecDepth 20000 in
theorem t_589 : Cond.code yX10_path cX10_path 4 (some .int) ∈ lw_tbl := tb_7 _ (List.mem_of_getElem? (i := 206) rfl)
set_option maxRecDepth 20000 in
theorem t_590 : Cond.methodLink RX10 453 yX10_finds ∈ lw_tbl := tb_7 _ (List.mem_of_getElem? (i := 195) rfl)
set_option maxRecDepth 20000 in
theorem t_591 : Cond.instanceMethod yX10_finds ∈ lw_tbl := tb_7 _ (List.mem_of_getElem? (i := 197) rfl)
theorem t_592 : Cond.selects RX10 yX10_finds yX10_finds ∈ lw_tbl := List.mem_append_left _ (List.mem_of_getElem? (i := 96) (by decide +kernel))
set_option maxRecDepth 20000 in
theorem t_593 : Cond.fieldLink RX10 450 "CardBowlModel" "callMany" "I" ∈ lw_tbl := tb_5 _ (List.mem_of_getElem? (i := 207) rfl)
set_option maxRecDepth 20000 in
theorem t_594 : Cond.code yX10_payingHere cX10_payingHere 1 (some .int) ∈ lw_tbl := tb_6 _ (List.mem_of_getElem? (i := 110) rfl)
set_option maxRecDepth 20000 in
theorem t_595 : Cond.code yX10_pays cX10_pays 6 (some .int) ∈ lw_tbl := tb_7 _ (List.mem_of_getElem? (i := 42) rfl)
set_option maxRecDepth 20000 in
theorem t_596 : Cond.methodLink RX10 328 yX10_drops ∈ lw_tbl := tb_7 _ (List.mem_of_getElem? (i := 47) rfl)
set_option maxRecDepth 20000 in
theorem t_597 : Cond.instanceMethod yX10_drops ∈ lw_tbl := tb_7 _ (List.mem_of_getElem? (i := 49) rfl)
theorem t_598 : Cond.selects RX10 yX10_drops yX10_drops ∈ lw_tbl := List.mem_append_left _ (List.mem_of_getElem? (i := 76) (by decide +kernel))
set_option maxRecDepth 20000 in
theorem t_599 : Cond.code yX10_placeOf cX10_placeOf 5 (some .int) ∈ lw_tbl := tb_7 _ (List.mem_of_getElem? (i := 103) rfl)
set_option maxRecDepth 20000 in
theorem t_600 : Cond.code yX10_reach cX10_reach 2 (some .int) ∈ lw_tbl := tb_7 _ (List.mem_of_getElem? (i := 210) rfl)
set_option maxRecDepth 20000 in
theorem t_601 : Cond.code yX10_readHouse cX10_readHouse 2 none ∈ lw_tbl := tb_6 _ (List.mem_of_getElem? (i := 183) rfl)
set_option maxRecDepth 20000 in
theorem t_602 : Cond.methodLink RX10 206 yX10_told ∈ lw_tbl := tb_6 _ (List.mem_of_getElem? (i := 147) rfl)
set_option maxRecDepth 20000 in
theorem t_603 : Cond.instanceMethod yX10_told ∈ lw_tbl := tb_6 _ (List.mem_of_getElem? (i := 149) rfl)
theorem t_604 : Cond.selects RX10 yX10_told yX10_told ∈ lw_tbl := List.mem_append_left _ (List.mem_of_getElem? (i := 54) (by decide +kernel))
set_option maxRecDepth 20000 in
theorem t_605 : Cond.methodLink RX10 180 yX10_number ∈ lw_tbl := tb_6 _ (List.mem_of_getElem? (i := 151) rfl)
set_option maxRecDepth 20000 in
theorem t_606 : Cond.instanceMethod yX10_number ∈ lw_tbl := tb_6 _ (List.mem_of_getElem? (i := 153) rfl)
theorem t_607 : Cond.selects RX10 yX10_number yX10_number ∈ lw_tbl := List.mem_append_left _ (List.mem_of_getElem? (i := 55) (by decide +kernel))
set_option maxRecDepth 20000 in
theorem t_608 : Cond.methodLink RX10 176 yX10_needs ∈ lw_tbl := tb_6 _ (List.mem_of_getElem? (i := 138) rfl)
set_option maxRecDepth 20000 in
theorem t_609 : Cond.instanceMethod yX10_needs ∈ lw_tbl := tb_6 _ (List.mem_of_getElem? (i := 140) rfl)
theorem t_610 : Cond.selects RX10 yX10_needs yX10_needs ∈ lw_tbl := List.mem_append_left _ (List.mem_of_getElem? (i := 52) (by decide +kernel))
set_option maxRecDepth 20000 in
theorem t_611 : Cond.methodLink RX10 214 yX10_dayHere ∈ lw_tbl := tb_6 _ (List.mem_of_getElem? (i := 187) rfl)
set_option maxRecDepth 20000 in
theorem t_612 : Cond.instanceMethod yX10_dayHere ∈ lw_tbl := tb_6 _ (List.mem_of_getElem? (i := 189) rfl)
theorem t_613 : Cond.selects RX10 yX10_dayHere yX10_dayHere ∈ lw_tbl := List.mem_append_left _ (List.mem_of_getElem? (i := 60) (by decide +kernel))
set_option maxRecDepth 20000 in
theorem t_614 : Cond.methodLink RX10 217 yX10_taken ∈ lw_tbl := tb_6 _ (List.mem_of_getElem? (i := 133) rfl)
set_option maxRecDepth 20000 in
theorem t_615 : Cond.instanceMethod yX10_taken ∈ lw_tbl := tb_6 _ (List.mem_of_getElem? (i := 135) rfl)
theorem t_616 : Cond.selects RX10 yX10_taken yX10_taken ∈ lw_tbl := List.mem_append_left _ (List.mem_of_getElem? (i := 51) (by decide +kernel))
set_option maxRecDepth 20000 in
theorem t_617 : Cond.code yX10_readKnow cX10_readKnow 3 none ∈ lw_tbl := tb_6 _ (List.mem_of_getElem? (i := 203) rfl)
set_option maxRecDepth 20000 in
theorem t_618 : Cond.code yX10_readLine cX10_readLine 3 none ∈ lw_tbl := tb_6 _ (List.mem_of_getElem? (i := 106) rfl)
set_option maxRecDepth 20000 in
theorem t_619 : Cond.methodLink RX10 252 yX10_payingHere ∈ lw_tbl := tb_6 _ (List.mem_of_getElem? (i := 107) rfl)
set_option maxRecDepth 20000 in
theorem t_620 : Cond.instanceMethod yX10_payingHere ∈ lw_tbl := tb_6 _ (List.mem_of_getElem? (i := 109) rfl)
theorem t_621 : Cond.selects RX10 yX10_payingHere yX10_payingHere ∈ lw_tbl := List.mem_append_left _ (List.mem_of_getElem? (i := 47) (by decide +kernel))
set_option maxRecDepth 20000 in
theorem t_622 : Cond.methodLink RX10 274 yX10_readOwes ∈ lw_tbl := tb_6 _ (List.mem_of_getElem? (i := 129) rfl)
set_option maxRecDepth 20000 in
theorem t_623 : Cond.instanceMethod yX10_readOwes ∈ lw_tbl := tb_6 _ (List.mem_of_getElem? (i := 131) rfl)
theorem t_624 : Cond.selects RX10 yX10_readOwes yX10_readOwes ∈ lw_tbl := List.mem_append_left _ (List.mem_of_getElem? (i := 50) (by decide +kernel))
set_option maxRecDepth 20000 in
theorem t_625 : Cond.methodLink RX10 277 yX10_readHouse ∈ lw_tbl := tb_6 _ (List.mem_of_getElem? (i := 180) rfl)
set_option maxRecDepth 20000 in
theorem t_626 : Cond.instanceMethod yX10_readHouse ∈ lw_tbl := tb_6 _ (List.mem_of_getElem? (i := 182) rfl)
theorem t_627 : Cond.selects RX10 yX10_readHouse yX10_readHouse ∈ lw_tbl := List.mem_append_left _ (List.mem_of_getElem? (i := 59) (by decide +kernel))
set_option maxRecDepth 20000 in
theorem t_628 : Cond.methodLink RX10 280 yX10_readKnow ∈ lw_tbl := tb_6 _ (List.mem_of_getElem? (i := 200) rfl)
set_option maxRecDepth 20000 in
theorem t_629 : Cond.instanceMethod yX10_readKnow ∈ lw_tbl := tb_6 _ (List.mem_of_getElem? (i := 202) rfl)
theorem t_630 : Cond.selects RX10 yX10_readKnow yX10_readKnow ∈ lw_tbl := List.mem_append_left _ (List.mem_of_getElem? (i := 61) (by decide +kernel))
set_option maxRecDepth 20000 in
theorem t_631 : Cond.code yX10_readOwes cX10_readOwes 2 none ∈ lw_tbl := tb_6 _ (List.mem_of_getElem? (i := 132) rfl)
set_option maxRecDepth 20000 in
theorem t_632 : Cond.methodLink RX10 261 yX10_readTest ∈ lw_tbl := tb_6 _ (List.mem_of_getElem? (i := 156) rfl)
set_option maxRecDepth 20000 in
theorem t_633 : Cond.instanceMethod yX10_readTest ∈ lw_tbl := tb_6 _ (List.mem_of_getElem? (i := 158) rfl)
theorem t_634 : Cond.selects RX10 yX10_readTest yX10_readTest ∈ lw_tbl := List.mem_append_left _ (List.mem_of_getElem? (i := 56) (by decide +kernel))
set_option maxRecDepth 20000 in
theorem t_635 : Cond.code yX10_readPart cX10_readPart 5 none ∈ lw_tbl := tb_6 _ (List.mem_of_getElem? (i := 167) rfl)
set_option maxRecDepth 20000 in
theorem t_636 : Cond.code yX10_readSum cX10_readSum 3 none ∈ lw_tbl := tb_6 _ (List.mem_of_getElem? (i := 163) rfl)
set_option maxRecDepth 20000 in
theorem t_637 : Cond.methodLink RX10 234 yX10_readPart ∈ lw_tbl := tb_6 _ (List.mem_of_getElem? (i := 164) rfl)
set_option maxRecDepth 20000 in
theorem t_638 : Cond.instanceMethod yX10_readPart ∈ lw_tbl := tb_6 _ (List.mem_of_getElem? (i := 166) rfl)
theorem t_639 : Cond.selects RX10 yX10_readPart yX10_readPart ∈ lw_tbl := List.mem_append_left _ (List.mem_of_getElem? (i := 58) (by decide +kernel))
set_option maxRecDepth 20000 in
theorem t_640 : Cond.code yX10_readTest cX10_readTest 4 none ∈ lw_tbl := tb_6 _ (List.mem_of_getElem? (i := 159) rfl)
set_option maxRecDepth 20000 in
theorem t_641 : Cond.methodLink RX10 243 yX10_readSum ∈ lw_tbl := tb_6 _ (List.mem_of_getElem? (i := 160) rfl)
set_option maxRecDepth 20000 in
theorem t_642 : Cond.instanceMethod yX10_readSum ∈ lw_tbl := tb_6 _ (List.mem_of_getElem? (i := 162) rfl)
theorem t_643 : Cond.selects RX10 yX10_readSum yX10_readSum ∈ lw_tbl := List.mem_append_left _ (List.mem_of_getElem? (i := 57) (by decide +kernel))
set_option maxRecDepth 20000 in
theorem t_644 : Cond.code yX10_ring cX10_ring 2 (some .int) ∈ lw_tbl := tb_7 _ (List.mem_of_getElem? (i := 226) rfl)
set_option maxRecDepth 20000 in
theorem t_645 : Cond.methodLink RX10 462 yX10_callsAll ∈ lw_tbl := tb_7 _ (List.mem_of_getElem? (i := 227) rfl)
set_option maxRecDepth 20000 in
theorem t_646 : Cond.instanceMethod yX10_callsAll ∈ lw_tbl := tb_7 _ (List.mem_of_getElem? (i := 229) rfl)
theorem t_647 : Cond.selects RX10 yX10_callsAll yX10_callsAll ∈ lw_tbl := List.mem_append_left _ (List.mem_of_getElem? (i := 99) (by decide +kernel))
set_option maxRecDepth 20000 in
theorem t_648 : Cond.methodLink RX10 465 yX10_ringOf ∈ lw_tbl := tb_7 _ (List.mem_of_getElem? (i := 231) rfl)
set_option maxRecDepth 20000 in
theorem t_649 : Cond.instanceMethod yX10_ringOf ∈ lw_tbl := tb_7 _ (List.mem_of_getElem? (i := 233) rfl)
theorem t_650 : Cond.selects RX10 yX10_ringOf yX10_ringOf ∈ lw_tbl := List.mem_append_left _ (List.mem_of_getElem? (i := 100) (by decide +kernel))
set_option maxRecDepth 20000 in
theorem t_651 : Cond.code yX10_ringOf cX10_ringOf 4 (some .int) ∈ lw_tbl := tb_7 _ (List.mem_of_getElem? (i := 234) rfl)
set_option maxRecDepth 20000 in
theorem t_652 : Cond.methodLink RX10 459 yX10_comesTo ∈ lw_tbl := tb_7 _ (List.mem_of_getElem? (i := 235) rfl)
set_option maxRecDepth 20000 in
theorem t_653 : Cond.instanceMethod yX10_comesTo ∈ lw_tbl := tb_7 _ (List.mem_of_getElem? (i := 237) rfl)
theorem t_654 : Cond.selects RX10 yX10_comesTo yX10_comesTo ∈ lw_tbl := List.mem_append_left _ (List.mem_of_getElem? (i := 101) (by decide +kernel))
set_option maxRecDepth 20000 in
theorem t_655 : Cond.code yX10_rings cX10_rings 4 (some .int) ∈ lw_tbl := tb_8 _ (List.mem_of_getElem? (i := 2) rfl)
set_option maxRecDepth 20000 in
theorem t_656 : Cond.code yX10_round cX10_round 5 (some .int) ∈ lw_tbl := tb_7 _ (List.mem_of_getElem? (i := 166) rfl)
set_option maxRecDepth 20000 in
theorem t_657 : Cond.fieldLink RX10 415 "CardBowlModel" "bestSet" "I" ∈ lw_tbl := tb_5 _ (List.mem_of_getElem? (i := 194) rfl)
set_option maxRecDepth 20000 in
theorem t_658 : Cond.methodLink RX10 435 yX10_rowOf ∈ lw_tbl := tb_7 _ (List.mem_of_getElem? (i := 167) rfl)
set_option maxRecDepth 20000 in
theorem t_659 : Cond.instanceMethod yX10_rowOf ∈ lw_tbl := tb_7 _ (List.mem_of_getElem? (i := 169) rfl)
theorem t_660 : Cond.selects RX10 yX10_rowOf yX10_rowOf ∈ lw_tbl := List.mem_append_left _ (List.mem_of_getElem? (i := 93) (by decide +kernel))
set_option maxRecDepth 20000 in
theorem t_661 : Cond.code yX10_rounds cX10_rounds 7 none ∈ lw_tbl := tb_7 _ (List.mem_of_getElem? (i := 132) rfl)
set_option maxRecDepth 20000 in
theorem t_662 : Cond.methodLink RX10 408 yX10_lists ∈ lw_tbl := tb_7 _ (List.mem_of_getElem? (i := 133) rfl)
set_option maxRecDepth 20000 in
theorem t_663 : Cond.instanceMethod yX10_lists ∈ lw_tbl := tb_7 _ (List.mem_of_getElem? (i := 135) rfl)
theorem t_664 : Cond.selects RX10 yX10_lists yX10_lists ∈ lw_tbl := List.mem_append_left _ (List.mem_of_getElem? (i := 87) (by decide +kernel))
set_option maxRecDepth 20000 in
theorem t_665 : Cond.fieldLink RX10 421 "CardBowlModel" "bestWorth" "I" ∈ lw_tbl := tb_5 _ (List.mem_of_getElem? (i := 196) rfl)
set_option maxRecDepth 20000 in
theorem t_666 : Cond.code yX10_row cX10_row 5 (some .int) ∈ lw_tbl := tb_8 _ (List.mem_of_getElem? (i := 20) rfl)
set_option maxRecDepth 20000 in
theorem t_667 : Cond.code yX10_rowOf cX10_rowOf 12 none ∈ lw_tbl := tb_7 _ (List.mem_of_getElem? (i := 170) rfl)
set_option maxRecDepth 20000 in
theorem t_668 : Cond.code yX10_see cX10_see 2 (some .int) ∈ lw_tbl := tb_6 _ (List.mem_of_getElem? (i := 93) rfl)
set_option maxRecDepth 20000 in
theorem t_669 : Cond.fieldLink RX10 112 "CardBowlModel" "size" "I" ∈ lw_tbl := tb_5 _ (List.mem_of_getElem? (i := 180) rfl)
set_option maxRecDepth 20000 in
theorem t_670 : Cond.code yX10_seen cX10_seen 6 (some .int) ∈ lw_tbl := tb_7 _ (List.mem_of_getElem? (i := 148) rfl)
set_option maxRecDepth 20000 in
theorem t_671 : Cond.methodLink RX10 399 yX10_minutes ∈ lw_tbl := tb_7 _ (List.mem_of_getElem? (i := 149) rfl)
set_option maxRecDepth 20000 in
theorem t_672 : Cond.instanceMethod yX10_minutes ∈ lw_tbl := tb_7 _ (List.mem_of_getElem? (i := 151) rfl)
theorem t_673 : Cond.selects RX10 yX10_minutes yX10_minutes ∈ lw_tbl := List.mem_append_left _ (List.mem_of_getElem? (i := 91) (by decide +kernel))
set_option maxRecDepth 20000 in
theorem t_674 : Cond.methodLink RX10 402 Lib.Math.max.name ∈ lw_tbl := tb_7 _ (List.mem_of_getElem? (i := 154) rfl)
set_option maxRecDepth 20000 in
theorem t_675 : Cond.static Lib.Math.max.name ∈ lw_tbl := tb_4 _ (List.mem_of_getElem? (i := 168) rfl)
set_option maxRecDepth 20000 in
theorem t_676 : Cond.code Lib.Math.max.name Lib.Math.max.code 2 (some .int) ∈ lw_tbl := tb_4 _ (List.mem_of_getElem? (i := 169) rfl)
set_option maxRecDepth 20000 in
theorem t_677 : Cond.code yX10_slights cX10_slights 2 (some .int) ∈ lw_tbl := tb_7 _ (List.mem_of_getElem? (i := 107) rfl)
set_option maxRecDepth 20000 in
theorem t_678 : Cond.code yX10_slightsOf cX10_slightsOf 4 (some .int) ∈ lw_tbl := tb_7 _ (List.mem_of_getElem? (i := 111) rfl)
set_option maxRecDepth 20000 in
theorem t_679 : Cond.code yX10_soon cX10_soon 3 (some .int) ∈ lw_tbl := tb_7 _ (List.mem_of_getElem? (i := 194) rfl)
set_option maxRecDepth 20000 in
theorem t_680 : Cond.code yX10_taken cX10_taken 2 (some .int) ∈ lw_tbl := tb_6 _ (List.mem_of_getElem? (i := 136) rfl)
set_option maxRecDepth 20000 in
theorem t_681 : Cond.code yX10_takes cX10_takes 3 (some .boolean) ∈ lw_tbl := tb_6 _ (List.mem_of_getElem? (i := 145) rfl)
set_option maxRecDepth 20000 in
theorem t_682 : Cond.code yX10_testHolds cX10_testHolds 11 (some .boolean) ∈ lw_tbl := tb_7 _ (List.mem_of_getElem? (i := 62) rfl)
set_option maxRecDepth 20000 in
theorem t_683 : Cond.methodLink RX10 331 yX10_partOf ∈ lw_tbl := tb_7 _ (List.mem_of_getElem? (i := 63) rfl)
set_option maxRecDepth 20000 in
theorem t_684 : Cond.instanceMethod yX10_partOf ∈ lw_tbl := tb_7 _ (List.mem_of_getElem? (i := 65) rfl)
theorem t_685 : Cond.selects RX10 yX10_partOf yX10_partOf ∈ lw_tbl := List.mem_append_left _ (List.mem_of_getElem? (i := 80) (by decide +kernel))
set_option maxRecDepth 20000 in
theorem t_686 : Cond.constantLong RX10 335 (-1000000000) ∈ lw_tbl := tb_7 _ (List.mem_of_getElem? (i := 67) rfl)
set_option maxRecDepth 20000 in
theorem t_687 : Cond.constantLong RX10 337 (1000000000) ∈ lw_tbl := tb_7 _ (List.mem_of_getElem? (i := 68) rfl)
set_option maxRecDepth 20000 in
theorem t_688 : Cond.code yX10_tie cX10_tie 3 (some .int) ∈ lw_tbl := tb_7 _ (List.mem_of_getElem? (i := 222) rfl)
set_option maxRecDepth 20000 in
theorem t_689 : Cond.code yX10_today cX10_today 1 (some .int) ∈ lw_tbl := tb_6 _ (List.mem_of_getElem? (i := 216) rfl)
set_option maxRecDepth 20000 in
theorem t_690 : Cond.code yX10_told cX10_told 4 (some .int) ∈ lw_tbl := tb_6 _ (List.mem_of_getElem? (i := 150) rfl)
set_option maxRecDepth 20000 in
theorem t_691 : Cond.code yX10_town cX10_town 2 (some .int) ∈ lw_tbl := tb_6 _ (List.mem_of_getElem? (i := 85) rfl)
set_option maxRecDepth 20000 in
theorem t_692 : Cond.methodLink RX10 283 yX10_readLine ∈ lw_tbl := tb_6 _ (List.mem_of_getElem? (i := 103) rfl)
set_option maxRecDepth 20000 in
theorem t_693 : Cond.instanceMethod yX10_readLine ∈ lw_tbl := tb_6 _ (List.mem_of_getElem? (i := 105) rfl)
theorem t_694 : Cond.selects RX10 yX10_readLine yX10_readLine ∈ lw_tbl := List.mem_append_left _ (List.mem_of_getElem? (i := 46) (by decide +kernel))
set_option maxRecDepth 20000 in
theorem t_695 : Cond.code yX10_walks cX10_walks 4 none ∈ lw_tbl := tb_7 _ (List.mem_of_getElem? (i := 202) rfl)
set_option maxRecDepth 20000 in
theorem t_696 : Cond.code yX10_weighs cX10_weighs 4 none ∈ lw_tbl := tb_7 _ (List.mem_of_getElem? (i := 140) rfl)
set_option maxRecDepth 20000 in
theorem t_697 : Cond.code yX10_worth cX10_worth 3 (some .int) ∈ lw_tbl := tb_7 _ (List.mem_of_getElem? (i := 123) rfl)
set_option maxRecDepth 20000 in
theorem t_698 : Cond.code yX10_write cX10_write 5 (some .int) ∈ lw_tbl := tb_8 _ (List.mem_of_getElem? (i := 24) rfl)
set_option maxRecDepth 20000 in
theorem t_699 : Cond.methodLink RX10 471 yX10_cut ∈ lw_tbl := tb_8 _ (List.mem_of_getElem? (i := 25) rfl)
set_option maxRecDepth 20000 in
theorem t_700 : Cond.static yX10_cut ∈ lw_tbl := tb_8 _ (List.mem_of_getElem? (i := 26) rfl)
set_option maxRecDepth 20000 in
theorem t_701 : Cond.code yX2_add cX2_add 5 none ∈ lw_tbl := tb_4 _ (List.mem_of_getElem? (i := 52) rfl)
set_option maxRecDepth 20000 in
theorem t_702 : Cond.fieldLink RX2 24 "CardBowl$Deeds" "size" "I" ∈ lw_tbl := tb_2 _ (List.mem_of_getElem? (i := 9) rfl)
set_option maxRecDepth 20000 in
theorem t_703 : Cond.fieldLink RX2 9 "CardBowl$Deeds" "who" "[I" ∈ lw_tbl := tb_2 _ (List.mem_of_getElem? (i := 12) rfl)
set_option maxRecDepth 20000 in
theorem t_704 : Cond.fieldLink RX2 15 "CardBowl$Deeds" "whom" "[I" ∈ lw_tbl := tb_2 _ (List.mem_of_getElem? (i := 14) rfl)
set_option maxRecDepth 20000 in
theorem t_705 : Cond.fieldLink RX2 18 "CardBowl$Deeds" "what" "[I" ∈ lw_tbl := tb_2 _ (List.mem_of_getElem? (i := 16) rfl)
set_option maxRecDepth 20000 in
theorem t_706 : Cond.fieldLink RX2 21 "CardBowl$Deeds" "day" "[I" ∈ lw_tbl := tb_2 _ (List.mem_of_getElem? (i := 18) rfl)
set_option maxRecDepth 20000 in
theorem t_707 : Cond.code yX2_callsBy cX2_callsBy 4 (some .int) ∈ lw_tbl := tb_5 _ (List.mem_of_getElem? (i := 89) rfl)
set_option maxRecDepth 20000 in
theorem t_708 : Cond.code yX2_callsTo cX2_callsTo 4 (some .int) ∈ lw_tbl := tb_5 _ (List.mem_of_getElem? (i := 93) rfl)
set_option maxRecDepth 20000 in
theorem t_709 : Cond.code yX2_copy cX2_copy 2 none ∈ lw_tbl := tb_5 _ (List.mem_of_getElem? (i := 133) rfl)
set_option maxRecDepth 20000 in
theorem t_710 : Cond.methodLink RX2 28 arraycopyName ∈ lw_tbl := tb_5 _ (List.mem_of_getElem? (i := 134) rfl)
set_option maxRecDepth 20000 in
theorem t_711 : Cond.code yX2_init cX2_init 1 none ∈ lw_tbl := tb_2 _ (List.mem_of_getElem? (i := 7) rfl)
set_option maxRecDepth 20000 in
theorem t_712 : Cond.methodLink RX2 3 objectInit ∈ lw_tbl := tb_2 _ (List.mem_of_getElem? (i := 8) rfl)
set_option maxRecDepth 20000 in
theorem t_713 : Cond.code yX2_isFull cX2_isFull 1 (some .boolean) ∈ lw_tbl := tb_3 _ (List.mem_of_getElem? (i := 237) rfl)
set_option maxRecDepth 20000 in
theorem t_714 : Cond.code yX3_advance cX3_advance 1 none ∈ lw_tbl := tb_3 _ (List.mem_of_getElem? (i := 31) rfl)
set_option maxRecDepth 20000 in
theorem t_715 : Cond.fieldLink RX3 42 "CardBowl$Reader" "next" "I" ∈ lw_tbl := tb_1 _ (List.mem_of_getElem? (i := 169) rfl)
set_option maxRecDepth 20000 in
theorem t_716 : Cond.fieldLink RX3 39 "CardBowl$Reader" "size" "I" ∈ lw_tbl := tb_1 _ (List.mem_of_getElem? (i := 167) rfl)
set_option maxRecDepth 20000 in
theorem t_717 : Cond.fieldLink RX3 29 "CardBowl$Reader" "text" "[B" ∈ lw_tbl := tb_1 _ (List.mem_of_getElem? (i := 166) rfl)
set_option maxRecDepth 20000 in
theorem t_718 : Cond.fieldLink RX3 179 "CardBowl$Reader" "begin" "I" ∈ lw_tbl := tb_1 _ (List.mem_of_getElem? (i := 168) rfl)
set_option maxRecDepth 20000 in
theorem t_719 : Cond.fieldLink RX3 55 "CardBowl$Reader" "kind" "I" ∈ lw_tbl := tb_1 _ (List.mem_of_getElem? (i := 170) rfl)
set_option maxRecDepth 20000 in
theorem t_720 : Cond.methodLink RX3 182 yX3_takeWord ∈ lw_tbl := tb_3 _ (List.mem_of_getElem? (i := 32) rfl)
set_option maxRecDepth 20000 in
theorem t_721 : Cond.initialized RX3 ∈ lw_tbl := tb_1 _ (List.mem_of_getElem? (i := 2) rfl)
set_option maxRecDepth 20000 in
theorem t_722 : Cond.instanceMethod yX3_takeWord ∈ lw_tbl := tb_3 _ (List.mem_of_getElem? (i := 34) rfl)
theorem t_723 : Cond.selects RX3 yX3_takeWord yX3_takeWord ∈ lw_tbl := List.mem_append_left _ (List.mem_of_getElem? (i := 2) (by decide +kernel))
set_option maxRecDepth 20000 in
theorem t_724 : Cond.methodLink RX3 185 yX3_takeNumber ∈ lw_tbl := tb_3 _ (List.mem_of_getElem? (i := 36) rfl)
set_option maxRecDepth 20000 in
theorem t_725 : Cond.instanceMethod yX3_takeNumber ∈ lw_tbl := tb_3 _ (List.mem_of_getElem? (i := 38) rfl)
theorem t_726 : Cond.selects RX3 yX3_takeNumber yX3_takeNumber ∈ lw_tbl := List.mem_append_left _ (List.mem_of_getElem? (i := 3) (by decide +kernel))
set_option maxRecDepth 20000 in
theorem t_727 : Cond.code yX3_among cX3_among 7 (some .int) ∈ lw_tbl := tb_3 _ (List.mem_of_getElem? (i := 45) rfl)
set_option maxRecDepth 20000 in
theorem t_728 : Cond.methodLink RX3 189 yJ0_length_8abf5 ∈ lw_tbl := tb_3 _ (List.mem_of_getElem? (i := 46) rfl)
set_option maxRecDepth 20000 in
theorem t_729 : Cond.methodLink RX3 195 yJ0_charAt_5068e ∈ lw_tbl := tb_3 _ (List.mem_of_getElem? (i := 56) rfl)
set_option maxRecDepth 20000 in
theorem t_730 : Cond.code yX3_choice cX3_choice 3 (some .int) ∈ lw_tbl := tb_3 _ (List.mem_of_getElem? (i := 106) rfl)
set_option maxRecDepth 20000 in
theorem t_731 : Cond.methodLink RX3 60 yX3_among ∈ lw_tbl := tb_3 _ (List.mem_of_getElem? (i := 42) rfl)
set_option maxRecDepth 20000 in
theorem t_732 : Cond.instanceMethod yX3_among ∈ lw_tbl := tb_3 _ (List.mem_of_getElem? (i := 44) rfl)
theorem t_733 : Cond.selects RX3 yX3_among yX3_among ∈ lw_tbl := List.mem_append_left _ (List.mem_of_getElem? (i := 4) (by decide +kernel))
set_option maxRecDepth 20000 in
theorem t_734 : Cond.methodLink RX3 89 yX3_refuse ∈ lw_tbl := tb_3 _ (List.mem_of_getElem? (i := 98) rfl)
set_option maxRecDepth 20000 in
theorem t_735 : Cond.instanceMethod yX3_refuse ∈ lw_tbl := tb_3 _ (List.mem_of_getElem? (i := 100) rfl)
theorem t_736 : Cond.selects RX3 yX3_refuse yX3_refuse ∈ lw_tbl := List.mem_append_left _ (List.mem_of_getElem? (i := 6) (by decide +kernel))
set_option maxRecDepth 20000 in
theorem t_737 : Cond.fieldLink RX3 45 "CardBowl$Reader" "fault" "I" ∈ lw_tbl := tb_1 _ (List.mem_of_getElem? (i := 162) rfl)
set_option maxRecDepth 20000 in
theorem t_738 : Cond.methodLink RX3 52 yX3_advance ∈ lw_tbl := tb_3 _ (List.mem_of_getElem? (i := 28) rfl)
set_option maxRecDepth 20000 in
theorem t_739 : Cond.instanceMethod yX3_advance ∈ lw_tbl := tb_3 _ (List.mem_of_getElem? (i := 30) rfl)
theorem t_740 : Cond.selects RX3 yX3_advance yX3_advance ∈ lw_tbl := List.mem_append_left _ (List.mem_of_getElem? (i := 1) (by decide +kernel))
set_option maxRecDepth 20000 in
theorem t_741 : Cond.code yX3_closeLine cX3_closeLine 1 none ∈ lw_tbl := tb_3 _ (List.mem_of_getElem? (i := 149) rfl)
set_option maxRecDepth 20000 in
theorem t_742 : Cond.code yX3_init cX3_init 1 none ∈ lw_tbl := tb_1 _ (List.mem_of_getElem? (i := 32) rfl)
set_option maxRecDepth 20000 in
theorem t_743 : Cond.methodLink RX3 3 objectInit ∈ lw_tbl := tb_1 _ (List.mem_of_getElem? (i := 33) rfl)
set_option maxRecDepth 20000 in
theorem t_744 : Cond.classLink RX3 9 RX7 ∈ lw_tbl := tb_1 _ (List.mem_of_getElem? (i := 34) rfl)
set_option maxRecDepth 20000 in
theorem t_745 : Cond.instantiable RX7 12 ∈ lw_tbl := tb_1 _ (List.mem_of_getElem? (i := 35) rfl)
set_option maxRecDepth 20000 in
theorem t_746 : Cond.initialized RX7 ∈ lw_tbl := tb_1 _ (List.mem_of_getElem? (i := 3) rfl)
set_option maxRecDepth 20000 in
theorem t_747 : Cond.fieldLink RX3 12 "CardBowl$Reader" "town" "LCardBowl$Town;" ∈ lw_tbl := tb_1 _ (List.mem_of_getElem? (i := 158) rfl)
set_option maxRecDepth 20000 in
theorem t_748 : Cond.classLink RX3 18 RX0 ∈ lw_tbl := tb_1 _ (List.mem_of_getElem? (i := 111) rfl)
set_option maxRecDepth 20000 in
theorem t_749 : Cond.instantiable RX0 10 ∈ lw_tbl := tb_1 _ (List.mem_of_getElem? (i := 112) rfl)
set_option maxRecDepth 20000 in
theorem t_750 : Cond.fieldLink RX3 21 "CardBowl$Reader" "code" "LCardBowl$Code;" ∈ lw_tbl := tb_1 _ (List.mem_of_getElem? (i := 160) rfl)
set_option maxRecDepth 20000 in
theorem t_751 : Cond.fieldLink RX3 25 "CardBowl$Reader" "place" "I" ∈ lw_tbl := tb_1 _ (List.mem_of_getElem? (i := 164) rfl)
set_option maxRecDepth 20000 in
theorem t_752 : Cond.code yX3_number cX3_number 4 (some .int) ∈ lw_tbl := tb_3 _ (List.mem_of_getElem? (i := 112) rfl)
set_option maxRecDepth 20000 in
theorem t_753 : Cond.fieldLink RX3 136 "CardBowl$Reader" "value" "I" ∈ lw_tbl := tb_1 _ (List.mem_of_getElem? (i := 171) rfl)
set_option maxRecDepth 20000 in
theorem t_754 : Cond.code yX3_read cX3_read 5 none ∈ lw_tbl := tb_3 _ (List.mem_of_getElem? (i := 13) rfl)
set_option maxRecDepth 20000 in
theorem t_755 : Cond.methodLink RX3 33 Lib.Math.min.name ∈ lw_tbl := tb_3 _ (List.mem_of_getElem? (i := 14) rfl)
set_option maxRecDepth 20000 in
theorem t_756 : Cond.methodLink RX3 48 yX7_clear ∈ lw_tbl := tb_3 _ (List.mem_of_getElem? (i := 17) rfl)
set_option maxRecDepth 20000 in
theorem t_757 : Cond.instanceMethod yX7_clear ∈ lw_tbl := tb_3 _ (List.mem_of_getElem? (i := 18) rfl)
set_option maxRecDepth 20000 in
theorem t_758 : Cond.selects RX7 yX7_clear yX7_clear ∈ lw_tbl := tb_3 _ (List.mem_of_getElem? (i := 19) rfl)
set_option maxRecDepth 20000 in
theorem t_759 : Cond.methodLink RX3 51 yX0_clear ∈ lw_tbl := tb_3 _ (List.mem_of_getElem? (i := 24) rfl)
set_option maxRecDepth 20000 in
theorem t_760 : Cond.instanceMethod yX0_clear ∈ lw_tbl := tb_3 _ (List.mem_of_getElem? (i := 25) rfl)
set_option maxRecDepth 20000 in
theorem t_761 : Cond.selects RX0 yX0_clear yX0_clear ∈ lw_tbl := tb_3 _ (List.mem_of_getElem? (i := 26) rfl)
set_option maxRecDepth 20000 in
theorem t_762 : Cond.methodLink RX3 64 yX3_readOwes ∈ lw_tbl := tb_3 _ (List.mem_of_getElem? (i := 94) rfl)
set_option maxRecDepth 20000 in
theorem t_763 : Cond.instanceMethod yX3_readOwes ∈ lw_tbl := tb_3 _ (List.mem_of_getElem? (i := 96) rfl)
theorem t_764 : Cond.selects RX3 yX3_readOwes yX3_readOwes ∈ lw_tbl := List.mem_append_left _ (List.mem_of_getElem? (i := 5) (by decide +kernel))
set_option maxRecDepth 20000 in
theorem t_765 : Cond.methodLink RX3 68 yX3_readOther ∈ lw_tbl := tb_3 _ (List.mem_of_getElem? (i := 128) rfl)
set_option maxRecDepth 20000 in
theorem t_766 : Cond.instanceMethod yX3_readOther ∈ lw_tbl := tb_3 _ (List.mem_of_getElem? (i := 130) rfl)
theorem t_767 : Cond.selects RX3 yX3_readOther yX3_readOther ∈ lw_tbl := List.mem_append_left _ (List.mem_of_getElem? (i := 11) (by decide +kernel))
set_option maxRecDepth 20000 in
theorem t_768 : Cond.methodLink RX3 71 yX3_closeLine ∈ lw_tbl := tb_3 _ (List.mem_of_getElem? (i := 146) rfl)
set_option maxRecDepth 20000 in
theorem t_769 : Cond.instanceMethod yX3_closeLine ∈ lw_tbl := tb_3 _ (List.mem_of_getElem? (i := 148) rfl)
theorem t_770 : Cond.selects RX3 yX3_closeLine yX3_closeLine ∈ lw_tbl := List.mem_append_left _ (List.mem_of_getElem? (i := 14) (by decide +kernel))
set_option maxRecDepth 20000 in
theorem t_771 : Cond.code yX3_readHouse cX3_readHouse 2 none ∈ lw_tbl := tb_3 _ (List.mem_of_getElem? (i := 135) rfl)
set_option maxRecDepth 20000 in
theorem t_772 : Cond.fieldLink RX3 92 "CardBowl$Town" "houses" "I" ∈ lw_tbl := tb_1 _ (List.mem_of_getElem? (i := 44) rfl)
set_option maxRecDepth 20000 in
theorem t_773 : Cond.methodLink RX3 97 yX3_choice ∈ lw_tbl := tb_3 _ (List.mem_of_getElem? (i := 103) rfl)
set_option maxRecDepth 20000 in
theorem t_774 : Cond.instanceMethod yX3_choice ∈ lw_tbl := tb_3 _ (List.mem_of_getElem? (i := 105) rfl)
theorem t_775 : Cond.selects RX3 yX3_choice yX3_choice ∈ lw_tbl := List.mem_append_left _ (List.mem_of_getElem? (i := 7) (by decide +kernel))
set_option maxRecDepth 20000 in
theorem t_776 : Cond.fieldLink RX3 100 "CardBowl$Town" "x" "[I" ∈ lw_tbl := tb_1 _ (List.mem_of_getElem? (i := 54) rfl)
set_option maxRecDepth 20000 in
theorem t_777 : Cond.methodLink RX3 80 yX3_number ∈ lw_tbl := tb_3 _ (List.mem_of_getElem? (i := 109) rfl)
set_option maxRecDepth 20000 in
theorem t_778 : Cond.instanceMethod yX3_number ∈ lw_tbl := tb_3 _ (List.mem_of_getElem? (i := 111) rfl)
theorem t_779 : Cond.selects RX3 yX3_number yX3_number ∈ lw_tbl := List.mem_append_left _ (List.mem_of_getElem? (i := 8) (by decide +kernel))
set_option maxRecDepth 20000 in
theorem t_780 : Cond.fieldLink RX3 104 "CardBowl$Town" "y" "[I" ∈ lw_tbl := tb_1 _ (List.mem_of_getElem? (i := 57) rfl)
set_option maxRecDepth 20000 in
theorem t_781 : Cond.fieldLink RX3 109 "CardBowl$Town" "rank" "[I" ∈ lw_tbl := tb_1 _ (List.mem_of_getElem? (i := 60) rfl)
set_option maxRecDepth 20000 in
theorem t_782 : Cond.fieldLink RX3 113 "CardBowl$Town" "weekday" "[I" ∈ lw_tbl := tb_1 _ (List.mem_of_getElem? (i := 64) rfl)
set_option maxRecDepth 20000 in
theorem t_783 : Cond.fieldLink RX3 118 "CardBowl$Town" "from" "[I" ∈ lw_tbl := tb_1 _ (List.mem_of_getElem? (i := 70) rfl)
set_option maxRecDepth 20000 in
theorem t_784 : Cond.fieldLink RX3 121 "CardBowl$Town" "to" "[I" ∈ lw_tbl := tb_1 _ (List.mem_of_getElem? (i := 74) rfl)
set_option maxRecDepth 20000 in
theorem t_785 : Cond.fieldLink RX3 124 "CardBowl$Town" "came" "[I" ∈ lw_tbl := tb_1 _ (List.mem_of_getElem? (i := 77) rfl)
set_option maxRecDepth 20000 in
theorem t_786 : Cond.methodLink RX3 128 yX3_takes ∈ lw_tbl := tb_3 _ (List.mem_of_getElem? (i := 114) rfl)
set_option maxRecDepth 20000 in
theorem t_787 : Cond.instanceMethod yX3_takes ∈ lw_tbl := tb_3 _ (List.mem_of_getElem? (i := 116) rfl)
theorem t_788 : Cond.selects RX3 yX3_takes yX3_takes ∈ lw_tbl := List.mem_append_left _ (List.mem_of_getElem? (i := 9) (by decide +kernel))
set_option maxRecDepth 20000 in
theorem t_789 : Cond.fieldLink RX3 132 "CardBowl$Town" "bride" "[I" ∈ lw_tbl := tb_1 _ (List.mem_of_getElem? (i := 80) rfl)
set_option maxRecDepth 20000 in
theorem t_790 : Cond.code yX3_readKnow cX3_readKnow 3 none ∈ lw_tbl := tb_3 _ (List.mem_of_getElem? (i := 145) rfl)
set_option maxRecDepth 20000 in
theorem t_791 : Cond.fieldLink RX3 139 "CardBowl$Town" "told" "[I" ∈ lw_tbl := tb_1 _ (List.mem_of_getElem? (i := 83) rfl)
set_option maxRecDepth 20000 in
theorem t_792 : Cond.code yX3_readOther cX3_readOther 2 none ∈ lw_tbl := tb_3 _ (List.mem_of_getElem? (i := 131) rfl)
set_option maxRecDepth 20000 in
theorem t_793 : Cond.methodLink RX3 74 yX3_readHouse ∈ lw_tbl := tb_3 _ (List.mem_of_getElem? (i := 132) rfl)
set_option maxRecDepth 20000 in
theorem t_794 : Cond.instanceMethod yX3_readHouse ∈ lw_tbl := tb_3 _ (List.mem_of_getElem? (i := 134) rfl)
theorem t_795 : Cond.selects RX3 yX3_readHouse yX3_readHouse ∈ lw_tbl := List.mem_append_left _ (List.mem_of_getElem? (i := 12) (by decide +kernel))
set_option maxRecDepth 20000 in
theorem t_796 : Cond.methodLink RX3 77 yX3_readKnow ∈ lw_tbl := tb_3 _ (List.mem_of_getElem? (i := 142) rfl)
set_option maxRecDepth 20000 in
theorem t_797 : Cond.instanceMethod yX3_readKnow ∈ lw_tbl := tb_3 _ (List.mem_of_getElem? (i := 144) rfl)
theorem t_798 : Cond.selects RX3 yX3_readKnow yX3_readKnow ∈ lw_tbl := List.mem_append_left _ (List.mem_of_getElem? (i := 13) (by decide +kernel))
set_option maxRecDepth 20000 in
theorem t_799 : Cond.fieldLink RX3 83 "CardBowl$Town" "fresh" "I" ∈ lw_tbl := tb_1 _ (List.mem_of_getElem? (i := 46) rfl)
set_option maxRecDepth 20000 in
theorem t_800 : Cond.fieldLink RX3 86 "CardBowl$Town" "introducers" "I" ∈ lw_tbl := tb_1 _ (List.mem_of_getElem? (i := 49) rfl)
set_option maxRecDepth 20000 in
theorem t_801 : Cond.code yX3_readOwes cX3_readOwes 3 none ∈ lw_tbl := tb_3 _ (List.mem_of_getElem? (i := 97) rfl)
set_option maxRecDepth 20000 in
theorem t_802 : Cond.fieldLink RX3 142 "CardBowl$Code" "lines" "I" ∈ lw_tbl := tb_1 _ (List.mem_of_getElem? (i := 118) rfl)
set_option maxRecDepth 20000 in
theorem t_803 : Cond.fieldLink RX3 147 "CardBowl$Code" "paying" "[I" ∈ lw_tbl := tb_1 _ (List.mem_of_getElem? (i := 123) rfl)
set_option maxRecDepth 20000 in
theorem t_804 : Cond.fieldLink RX3 150 "CardBowl$Code" "kind" "[I" ∈ lw_tbl := tb_1 _ (List.mem_of_getElem? (i := 125) rfl)
set_option maxRecDepth 20000 in
theorem t_805 : Cond.fieldLink RX3 156 "CardBowl$Code" "within" "[I" ∈ lw_tbl := tb_1 _ (List.mem_of_getElem? (i := 128) rfl)
set_option maxRecDepth 20000 in
theorem t_806 : Cond.fieldLink RX3 158 "CardBowl$Code" "start" "[I" ∈ lw_tbl := tb_1 _ (List.mem_of_getElem? (i := 131) rfl)
set_option maxRecDepth 20000 in
theorem t_807 : Cond.fieldLink RX3 161 "CardBowl$Code" "used" "I" ∈ lw_tbl := tb_1 _ (List.mem_of_getElem? (i := 121) rfl)
set_option maxRecDepth 20000 in
theorem t_808 : Cond.methodLink RX3 166 yX3_readTests ∈ lw_tbl := tb_3 _ (List.mem_of_getElem? (i := 118) rfl)
set_option maxRecDepth 20000 in
theorem t_809 : Cond.instanceMethod yX3_readTests ∈ lw_tbl := tb_3 _ (List.mem_of_getElem? (i := 120) rfl)
theorem t_810 : Cond.selects RX3 yX3_readTests yX3_readTests ∈ lw_tbl := List.mem_append_left _ (List.mem_of_getElem? (i := 10) (by decide +kernel))
set_option maxRecDepth 20000 in
theorem t_811 : Cond.fieldLink RX3 169 "CardBowl$Code" "stop" "[I" ∈ lw_tbl := tb_1 _ (List.mem_of_getElem? (i := 133) rfl)
set_option maxRecDepth 20000 in
theorem t_812 : Cond.code yX3_readTests cX3_readTests 7 none ∈ lw_tbl := tb_3 _ (List.mem_of_getElem? (i := 121) rfl)
set_option maxRecDepth 20000 in
theorem t_813 : Cond.methodLink RX3 174 yX0_put ∈ lw_tbl := tb_3 _ (List.mem_of_getElem? (i := 123) rfl)
set_option maxRecDepth 20000 in
theorem t_814 : Cond.instanceMethod yX0_put ∈ lw_tbl := tb_3 _ (List.mem_of_getElem? (i := 124) rfl)
set_option maxRecDepth 20000 in
theorem t_815 : Cond.selects RX0 yX0_put yX0_put ∈ lw_tbl := tb_3 _ (List.mem_of_getElem? (i := 125) rfl)
set_option maxRecDepth 20000 in
theorem t_816 : Cond.code yX3_refuse cX3_refuse 2 none ∈ lw_tbl := tb_3 _ (List.mem_of_getElem? (i := 101) rfl)
set_option maxRecDepth 20000 in
theorem t_817 : Cond.code yX3_takeNumber cX3_takeNumber 1 none ∈ lw_tbl := tb_3 _ (List.mem_of_getElem? (i := 39) rfl)
set_option maxRecDepth 20000 in
theorem t_818 : Cond.constant RX3 188 (1000000) ∈ lw_tbl := tb_3 _ (List.mem_of_getElem? (i := 40) rfl)
set_option maxRecDepth 20000 in
theorem t_819 : Cond.code yX3_takeWord cX3_takeWord 1 none ∈ lw_tbl := tb_3 _ (List.mem_of_getElem? (i := 35) rfl)
set_option maxRecDepth 20000 in
theorem t_820 : Cond.code yX3_takes cX3_takes 2 (some .boolean) ∈ lw_tbl := tb_3 _ (List.mem_of_getElem? (i := 117) rfl)
set_option maxRecDepth 20000 in
theorem t_821 : Cond.code yX4_addDay cX4_addDay 6 none ∈ lw_tbl := tb_4 _ (List.mem_of_getElem? (i := 231) rfl)
set_option maxRecDepth 20000 in
theorem t_822 : Cond.fieldLink RX4 43 "CardBowl$Rounds" "soonest" "[I" ∈ lw_tbl := tb_2 _ (List.mem_of_getElem? (i := 97) rfl)
set_option maxRecDepth 20000 in
theorem t_823 : Cond.fieldLink RX4 46 "CardBowl$Rounds" "sums" "[I" ∈ lw_tbl := tb_2 _ (List.mem_of_getElem? (i := 98) rfl)
set_option maxRecDepth 20000 in
theorem t_824 : Cond.methodLink RX4 136 Lib.Math.min.name ∈ lw_tbl := tb_4 _ (List.mem_of_getElem? (i := 162) rfl)
set_option maxRecDepth 20000 in
theorem t_825 : Cond.code yX4_arrival cX4_arrival 7 (some .int) ∈ lw_tbl := tb_4 _ (List.mem_of_getElem? (i := 161) rfl)
set_option maxRecDepth 20000 in
theorem t_826 : Cond.fieldLink RX4 37 "CardBowl$Rounds" "apart" "[I" ∈ lw_tbl := tb_2 _ (List.mem_of_getElem? (i := 95) rfl)
set_option maxRecDepth 20000 in
theorem t_827 : Cond.fieldLink RX4 53 "CardBowl$Rounds" "spots" "I" ∈ lw_tbl := tb_2 _ (List.mem_of_getElem? (i := 89) rfl)
set_option maxRecDepth 20000 in
theorem t_828 : Cond.fieldLink RX4 40 "CardBowl$Rounds" "minute" "[I" ∈ lw_tbl := tb_2 _ (List.mem_of_getElem? (i := 96) rfl)
set_option maxRecDepth 20000 in
theorem t_829 : Cond.fieldLink RX4 22 "CardBowl$Rounds" "spot" "[I" ∈ lw_tbl := tb_2 _ (List.mem_of_getElem? (i := 90) rfl)
set_option maxRecDepth 20000 in
theorem t_830 : Cond.code yX4_bestSet cX4_bestSet 8 (some .int) ∈ lw_tbl := tb_4 _ (List.mem_of_getElem? (i := 173) rfl)
set_option maxRecDepth 20000 in
theorem t_831 : Cond.fieldLink RX4 139 "CardBowl$Rounds" "bestWorth" "I" ∈ lw_tbl := tb_2 _ (List.mem_of_getElem? (i := 79) rfl)
set_option maxRecDepth 20000 in
theorem t_832 : Cond.fieldLink RX4 92 "CardBowl$Rounds" "bestOver" "I" ∈ lw_tbl := tb_2 _ (List.mem_of_getElem? (i := 81) rfl)
set_option maxRecDepth 20000 in
theorem t_833 : Cond.methodLink RX4 142 yJ6_numberOfTrailingZeros_0f7a4 ∈ lw_tbl := tb_4 _ (List.mem_of_getElem? (i := 174) rfl)
set_option maxRecDepth 20000 in
theorem t_834 : Cond.initialized RJ6 ∈ lw_tbl := tb_1 _ (List.mem_of_getElem? (i := 19) rfl)
set_option maxRecDepth 20000 in
theorem t_835 : Cond.static yJ6_numberOfTrailingZeros_0f7a4 ∈ lw_tbl := tb_4 _ (List.mem_of_getElem? (i := 175) rfl)
set_option maxRecDepth 20000 in
theorem t_836 : Cond.fieldLink RX4 67 "CardBowl$State" "debts" "LCardBowl$Debts;" ∈ lw_tbl := tb_2 _ (List.mem_of_getElem? (i := 38) rfl)
set_option maxRecDepth 20000 in
theorem t_837 : Cond.methodLink RX4 71 yX1_kindsOf ∈ lw_tbl := tb_4 _ (List.mem_of_getElem? (i := 128) rfl)
set_option maxRecDepth 20000 in
theorem t_838 : Cond.methodLink RX4 148 yX4_worthOf ∈ lw_tbl := tb_4 _ (List.mem_of_getElem? (i := 178) rfl)
set_option maxRecDepth 20000 in
theorem t_839 : Cond.initialized RX4 ∈ lw_tbl := tb_1 _ (List.mem_of_getElem? (i := 8) rfl)
set_option maxRecDepth 20000 in
theorem t_840 : Cond.static yX4_worthOf ∈ lw_tbl := tb_4 _ (List.mem_of_getElem? (i := 179) rfl)
set_option maxRecDepth 20000 in
theorem t_841 : Cond.code yX4_canBeSeen cX4_canBeSeen 6 (some .boolean) ∈ lw_tbl := tb_5 _ (List.mem_of_getElem? (i := 3) rfl)
set_option maxRecDepth 20000 in
theorem t_842 : Cond.methodLink RX4 101 yX4_lookAt ∈ lw_tbl := tb_4 _ (List.mem_of_getElem? (i := 133) rfl)
set_option maxRecDepth 20000 in
theorem t_843 : Cond.instanceMethod yX4_lookAt ∈ lw_tbl := tb_4 _ (List.mem_of_getElem? (i := 135) rfl)
theorem t_844 : Cond.selects RX4 yX4_lookAt yX4_lookAt ∈ lw_tbl := List.mem_append_left _ (List.mem_of_getElem? (i := 25) (by decide +kernel))
set_option maxRecDepth 20000 in
theorem t_845 : Cond.fieldLink RX4 56 "CardBowl$State" "town" "LCardBowl$Town;" ∈ lw_tbl := tb_2 _ (List.mem_of_getElem? (i := 32) rfl)
set_option maxRecDepth 20000 in
theorem t_846 : Cond.methodLink RX4 105 yX7_minutes ∈ lw_tbl := tb_4 _ (List.mem_of_getElem? (i := 140) rfl)
set_option maxRecDepth 20000 in
theorem t_847 : Cond.instanceMethod yX7_minutes ∈ lw_tbl := tb_4 _ (List.mem_of_getElem? (i := 141) rfl)
set_option maxRecDepth 20000 in
theorem t_848 : Cond.selects RX7 yX7_minutes yX7_minutes ∈ lw_tbl := tb_4 _ (List.mem_of_getElem? (i := 142) rfl)
set_option maxRecDepth 20000 in
theorem t_849 : Cond.methodLink RX4 133 yX4_seen ∈ lw_tbl := tb_4 _ (List.mem_of_getElem? (i := 163) rfl)
set_option maxRecDepth 20000 in
theorem t_850 : Cond.instanceMethod yX4_seen ∈ lw_tbl := tb_4 _ (List.mem_of_getElem? (i := 165) rfl)
theorem t_851 : Cond.selects RX4 yX4_seen yX4_seen ∈ lw_tbl := List.mem_append_left _ (List.mem_of_getElem? (i := 29) (by decide +kernel))
set_option maxRecDepth 20000 in
theorem t_852 : Cond.fieldLink RX4 172 "CardBowl$State" "day" "I" ∈ lw_tbl := tb_2 _ (List.mem_of_getElem? (i := 47) rfl)
set_option maxRecDepth 20000 in
theorem t_853 : Cond.methodLink RX4 120 yX4_isAtHome ∈ lw_tbl := tb_4 _ (List.mem_of_getElem? (i := 151) rfl)
set_option maxRecDepth 20000 in
theorem t_854 : Cond.static yX4_isAtHome ∈ lw_tbl := tb_4 _ (List.mem_of_getElem? (i := 152) rfl)
set_option maxRecDepth 20000 in
theorem t_855 : Cond.code yX4_canWalk cX4_canWalk 10 (some .boolean) ∈ lw_tbl := tb_4 _ (List.mem_of_getElem? (i := 208) rfl)
set_option maxRecDepth 20000 in
theorem t_856 : Cond.fieldLink RX4 157 "CardBowl$Slot" "size" "I" ∈ lw_tbl := tb_2 _ (List.mem_of_getElem? (i := 190) rfl)
set_option maxRecDepth 20000 in
theorem t_857 : Cond.methodLink RX4 162 yX5_small ∈ lw_tbl := tb_4 _ (List.mem_of_getElem? (i := 209) rfl)
set_option maxRecDepth 20000 in
theorem t_858 : Cond.initialized RX5 ∈ lw_tbl := tb_1 _ (List.mem_of_getElem? (i := 10) rfl)
set_option maxRecDepth 20000 in
theorem t_859 : Cond.instanceMethod yX5_small ∈ lw_tbl := tb_4 _ (List.mem_of_getElem? (i := 72) rfl)
set_option maxRecDepth 20000 in
theorem t_860 : Cond.selects RX5 yX5_small yX5_small ∈ lw_tbl := tb_4 _ (List.mem_of_getElem? (i := 73) rfl)
set_option maxRecDepth 20000 in
theorem t_861 : Cond.methodLink RX4 165 yX7_has ∈ lw_tbl := tb_4 _ (List.mem_of_getElem? (i := 210) rfl)
set_option maxRecDepth 20000 in
theorem t_862 : Cond.instanceMethod yX7_has ∈ lw_tbl := tb_3 _ (List.mem_of_getElem? (i := 197) rfl)
set_option maxRecDepth 20000 in
theorem t_863 : Cond.selects RX7 yX7_has yX7_has ∈ lw_tbl := tb_3 _ (List.mem_of_getElem? (i := 198) rfl)
set_option maxRecDepth 20000 in
theorem t_864 : Cond.code yX4_fewestDays cX4_fewestDays 5 (some .int) ∈ lw_tbl := tb_4 _ (List.mem_of_getElem? (i := 218) rfl)
set_option maxRecDepth 20000 in
theorem t_865 : Cond.fieldLink RX4 49 "CardBowl$Rounds" "planned" "Z" ∈ lw_tbl := tb_2 _ (List.mem_of_getElem? (i := 77) rfl)
set_option maxRecDepth 20000 in
theorem t_866 : Cond.fieldLink RX4 15 "CardBowl$Rounds" "owner" "I" ∈ lw_tbl := tb_2 _ (List.mem_of_getElem? (i := 87) rfl)
set_option maxRecDepth 20000 in
theorem t_867 : Cond.methodLink RX4 169 yX4_gatherDeadlines ∈ lw_tbl := tb_4 _ (List.mem_of_getElem? (i := 219) rfl)
set_option maxRecDepth 20000 in
theorem t_868 : Cond.instanceMethod yX4_gatherDeadlines ∈ lw_tbl := tb_4 _ (List.mem_of_getElem? (i := 221) rfl)
theorem t_869 : Cond.selects RX4 yX4_gatherDeadlines yX4_gatherDeadlines ∈ lw_tbl := List.mem_append_left _ (List.mem_of_getElem? (i := 34) (by decide +kernel))
set_option maxRecDepth 20000 in
theorem t_870 : Cond.methodLink RX4 77 yX4_lookAtSpots ∈ lw_tbl := tb_4 _ (List.mem_of_getElem? (i := 129) rfl)
set_option maxRecDepth 20000 in
theorem t_871 : Cond.instanceMethod yX4_lookAtSpots ∈ lw_tbl := tb_4 _ (List.mem_of_getElem? (i := 131) rfl)
theorem t_872 : Cond.selects RX4 yX4_lookAtSpots yX4_lookAtSpots ∈ lw_tbl := List.mem_append_left _ (List.mem_of_getElem? (i := 24) (by decide +kernel))
set_option maxRecDepth 20000 in
theorem t_873 : Cond.methodLink RX4 85 yX4_reckonMinutes ∈ lw_tbl := tb_4 _ (List.mem_of_getElem? (i := 154) rfl)
set_option maxRecDepth 20000 in
theorem t_874 : Cond.instanceMethod yX4_reckonMinutes ∈ lw_tbl := tb_4 _ (List.mem_of_getElem? (i := 156) rfl)
theorem t_875 : Cond.selects RX4 yX4_reckonMinutes yX4_reckonMinutes ∈ lw_tbl := List.mem_append_left _ (List.mem_of_getElem? (i := 27) (by decide +kernel))
set_option maxRecDepth 20000 in
theorem t_876 : Cond.methodLink RX4 81 yX4_openSpots ∈ lw_tbl := tb_4 _ (List.mem_of_getElem? (i := 147) rfl)
set_option maxRecDepth 20000 in
theorem t_877 : Cond.instanceMethod yX4_openSpots ∈ lw_tbl := tb_4 _ (List.mem_of_getElem? (i := 149) rfl)
theorem t_878 : Cond.selects RX4 yX4_openSpots yX4_openSpots ∈ lw_tbl := List.mem_append_left _ (List.mem_of_getElem? (i := 26) (by decide +kernel))
set_option maxRecDepth 20000 in
theorem t_879 : Cond.methodLink RX4 175 yX4_inTime ∈ lw_tbl := tb_4 _ (List.mem_of_getElem? (i := 224) rfl)
set_option maxRecDepth 20000 in
theorem t_880 : Cond.instanceMethod yX4_inTime ∈ lw_tbl := tb_4 _ (List.mem_of_getElem? (i := 226) rfl)
theorem t_881 : Cond.selects RX4 yX4_inTime yX4_inTime ∈ lw_tbl := List.mem_append_left _ (List.mem_of_getElem? (i := 35) (by decide +kernel))
set_option maxRecDepth 20000 in
theorem t_882 : Cond.methodLink RX4 178 yX4_addDay ∈ lw_tbl := tb_4 _ (List.mem_of_getElem? (i := 228) rfl)
set_option maxRecDepth 20000 in
theorem t_883 : Cond.instanceMethod yX4_addDay ∈ lw_tbl := tb_4 _ (List.mem_of_getElem? (i := 230) rfl)
theorem t_884 : Cond.selects RX4 yX4_addDay yX4_addDay ∈ lw_tbl := List.mem_append_left _ (List.mem_of_getElem? (i := 36) (by decide +kernel))
set_option maxRecDepth 20000 in
theorem t_885 : Cond.code yX4_gatherDeadlines cX4_gatherDeadlines 7 none ∈ lw_tbl := tb_4 _ (List.mem_of_getElem? (i := 222) rfl)
set_option maxRecDepth 20000 in
theorem t_886 : Cond.methodLink RX4 181 yX1_nth ∈ lw_tbl := tb_4 _ (List.mem_of_getElem? (i := 223) rfl)
set_option maxRecDepth 20000 in
theorem t_887 : Cond.instanceMethod yX1_nth ∈ lw_tbl := tb_4 _ (List.mem_of_getElem? (i := 93) rfl)
set_option maxRecDepth 20000 in
theorem t_888 : Cond.selects RX1 yX1_nth yX1_nth ∈ lw_tbl := tb_4 _ (List.mem_of_getElem? (i := 94) rfl)
set_option maxRecDepth 20000 in
theorem t_889 : Cond.fieldLink RX4 184 "CardBowl$Debts" "creditor" "[I" ∈ lw_tbl := tb_1 _ (List.mem_of_getElem? (i := 214) rfl)
set_option maxRecDepth 20000 in
theorem t_890 : Cond.fieldLink RX4 25 "CardBowl$Rounds" "deadline" "[I" ∈ lw_tbl := tb_2 _ (List.mem_of_getElem? (i := 91) rfl)
set_option maxRecDepth 20000 in
theorem t_891 : Cond.fieldLink RX4 187 "CardBowl$Debts" "due" "[I" ∈ lw_tbl := tb_1 _ (List.mem_of_getElem? (i := 219) rfl)
set_option maxRecDepth 20000 in
theorem t_892 : Cond.code yX4_inTime cX4_inTime 4 (some .int) ∈ lw_tbl := tb_4 _ (List.mem_of_getElem? (i := 227) rfl)
set_option maxRecDepth 20000 in
theorem t_893 : Cond.code yX4_init cX4_init 1 none ∈ lw_tbl := tb_2 _ (List.mem_of_getElem? (i := 75) rfl)
set_option maxRecDepth 20000 in
theorem t_894 : Cond.methodLink RX4 5 objectInit ∈ lw_tbl := tb_2 _ (List.mem_of_getElem? (i := 76) rfl)
set_option maxRecDepth 20000 in
theorem t_895 : Cond.fieldLink RX4 11 "CardBowl$Rounds" "order" "[I" ∈ lw_tbl := tb_2 _ (List.mem_of_getElem? (i := 85) rfl)
set_option maxRecDepth 20000 in
theorem t_896 : Cond.fieldLink RX4 19 "CardBowl$Rounds" "weekday" "I" ∈ lw_tbl := tb_2 _ (List.mem_of_getElem? (i := 88) rfl)
set_option maxRecDepth 20000 in
theorem t_897 : Cond.fieldLink RX4 28 "CardBowl$Rounds" "opens" "[I" ∈ lw_tbl := tb_2 _ (List.mem_of_getElem? (i := 92) rfl)
set_option maxRecDepth 20000 in
theorem t_898 : Cond.fieldLink RX4 31 "CardBowl$Rounds" "closes" "[I" ∈ lw_tbl := tb_2 _ (List.mem_of_getElem? (i := 93) rfl)
set_option maxRecDepth 20000 in
theorem t_899 : Cond.fieldLink RX4 34 "CardBowl$Rounds" "stays" "[I" ∈ lw_tbl := tb_2 _ (List.mem_of_getElem? (i := 94) rfl)
set_option maxRecDepth 20000 in
theorem t_900 : Cond.code yX4_isAtHome cX4_isAtHome 4 (some .boolean) ∈ lw_tbl := tb_4 _ (List.mem_of_getElem? (i := 153) rfl)
set_option maxRecDepth 20000 in
theorem t_901 : Cond.methodLink RX4 108 yX4_isByCall ∈ lw_tbl := tb_4 _ (List.mem_of_getElem? (i := 137) rfl)
set_option maxRecDepth 20000 in
theorem t_902 : Cond.static yX4_isByCall ∈ lw_tbl := tb_4 _ (List.mem_of_getElem? (i := 138) rfl)
set_option maxRecDepth 20000 in
theorem t_903 : Cond.fieldLink RX4 118 "CardBowl$Town" "weekday" "[I" ∈ lw_tbl := tb_1 _ (List.mem_of_getElem? (i := 65) rfl)
set_option maxRecDepth 20000 in
theorem t_904 : Cond.code yX4_isByCall cX4_isByCall 3 (some .boolean) ∈ lw_tbl := tb_4 _ (List.mem_of_getElem? (i := 139) rfl)
set_option maxRecDepth 20000 in
theorem t_905 : Cond.code yX4_latest cX4_latest 8 (some .int) ∈ lw_tbl := tb_4 _ (List.mem_of_getElem? (i := 188) rfl)
set_option maxRecDepth 20000 in
theorem t_906 : Cond.methodLink RX4 124 Lib.Math.max.name ∈ lw_tbl := tb_4 _ (List.mem_of_getElem? (i := 167) rfl)
set_option maxRecDepth 20000 in
theorem t_907 : Cond.code yX4_lookAt cX4_lookAt 5 none ∈ lw_tbl := tb_4 _ (List.mem_of_getElem? (i := 136) rfl)
set_option maxRecDepth 20000 in
theorem t_908 : Cond.fieldLink RX4 112 "CardBowl$Town" "from" "[I" ∈ lw_tbl := tb_1 _ (List.mem_of_getElem? (i := 69) rfl)
set_option maxRecDepth 20000 in
theorem t_909 : Cond.fieldLink RX4 115 "CardBowl$Town" "to" "[I" ∈ lw_tbl := tb_1 _ (List.mem_of_getElem? (i := 73) rfl)
set_option maxRecDepth 20000 in
theorem t_910 : Cond.code yX4_lookAtSpots cX4_lookAtSpots 6 none ∈ lw_tbl := tb_4 _ (List.mem_of_getElem? (i := 132) rfl)
set_option maxRecDepth 20000 in
theorem t_911 : Cond.code yX4_lostBits cX4_lostBits 6 (some .int) ∈ lw_tbl := tb_4 _ (List.mem_of_getElem? (i := 239) rfl)
set_option maxRecDepth 20000 in
theorem t_912 : Cond.methodLink RX4 190 yX4_canBeSeen ∈ lw_tbl := tb_5 _ (List.mem_of_getElem? (i := 0) rfl)
set_option maxRecDepth 20000 in
theorem t_913 : Cond.instanceMethod yX4_canBeSeen ∈ lw_tbl := tb_5 _ (List.mem_of_getElem? (i := 2) rfl)
theorem t_914 : Cond.selects RX4 yX4_canBeSeen yX4_canBeSeen ∈ lw_tbl := List.mem_append_left _ (List.mem_of_getElem? (i := 37) (by decide +kernel))
set_option maxRecDepth 20000 in
theorem t_915 : Cond.code yX4_openSpots cX4_openSpots 5 (some .int) ∈ lw_tbl := tb_4 _ (List.mem_of_getElem? (i := 150) rfl)
set_option maxRecDepth 20000 in
theorem t_916 : Cond.code yX4_plan cX4_plan 5 none ∈ lw_tbl := tb_4 _ (List.mem_of_getElem? (i := 127) rfl)
set_option maxRecDepth 20000 in
theorem t_917 : Cond.fieldLink RX4 62 "CardBowl$Town" "houses" "I" ∈ lw_tbl := tb_1 _ (List.mem_of_getElem? (i := 41) rfl)
set_option maxRecDepth 20000 in
theorem t_918 : Cond.methodLink RX4 89 yX4_bestSet ∈ lw_tbl := tb_4 _ (List.mem_of_getElem? (i := 170) rfl)
set_option maxRecDepth 20000 in
theorem t_919 : Cond.instanceMethod yX4_bestSet ∈ lw_tbl := tb_4 _ (List.mem_of_getElem? (i := 172) rfl)
theorem t_920 : Cond.selects RX4 yX4_bestSet yX4_bestSet ∈ lw_tbl := List.mem_append_left _ (List.mem_of_getElem? (i := 30) (by decide +kernel))
set_option maxRecDepth 20000 in
theorem t_921 : Cond.methodLink RX4 95 yX4_reckonLatest ∈ lw_tbl := tb_4 _ (List.mem_of_getElem? (i := 181) rfl)
set_option maxRecDepth 20000 in
theorem t_922 : Cond.instanceMethod yX4_reckonLatest ∈ lw_tbl := tb_4 _ (List.mem_of_getElem? (i := 183) rfl)
theorem t_923 : Cond.selects RX4 yX4_reckonLatest yX4_reckonLatest ∈ lw_tbl := List.mem_append_left _ (List.mem_of_getElem? (i := 31) (by decide +kernel))
set_option maxRecDepth 20000 in
theorem t_924 : Cond.methodLink RX4 98 yX4_putInOrder ∈ lw_tbl := tb_4 _ (List.mem_of_getElem? (i := 189) rfl)
set_option maxRecDepth 20000 in
theorem t_925 : Cond.instanceMethod yX4_putInOrder ∈ lw_tbl := tb_4 _ (List.mem_of_getElem? (i := 191) rfl)
theorem t_926 : Cond.selects RX4 yX4_putInOrder yX4_putInOrder ∈ lw_tbl := List.mem_append_left _ (List.mem_of_getElem? (i := 33) (by decide +kernel))
set_option maxRecDepth 20000 in
theorem t_927 : Cond.code yX4_putInOrder cX4_putInOrder 10 none ∈ lw_tbl := tb_4 _ (List.mem_of_getElem? (i := 192) rfl)
set_option maxRecDepth 20000 in
theorem t_928 : Cond.fieldLink RX4 154 "CardBowl$Rounds" "length" "I" ∈ lw_tbl := tb_2 _ (List.mem_of_getElem? (i := 83) rfl)
set_option maxRecDepth 20000 in
theorem t_929 : Cond.code yX4_reckonLatest cX4_reckonLatest 5 none ∈ lw_tbl := tb_4 _ (List.mem_of_getElem? (i := 184) rfl)
set_option maxRecDepth 20000 in
theorem t_930 : Cond.methodLink RX4 151 yX4_latest ∈ lw_tbl := tb_4 _ (List.mem_of_getElem? (i := 185) rfl)
set_option maxRecDepth 20000 in
theorem t_931 : Cond.instanceMethod yX4_latest ∈ lw_tbl := tb_4 _ (List.mem_of_getElem? (i := 187) rfl)
theorem t_932 : Cond.selects RX4 yX4_latest yX4_latest ∈ lw_tbl := List.mem_append_left _ (List.mem_of_getElem? (i := 32) (by decide +kernel))
set_option maxRecDepth 20000 in
theorem t_933 : Cond.code yX4_reckonMinutes cX4_reckonMinutes 8 none ∈ lw_tbl := tb_4 _ (List.mem_of_getElem? (i := 157) rfl)
set_option maxRecDepth 20000 in
theorem t_934 : Cond.methodLink RX4 129 yX4_arrival ∈ lw_tbl := tb_4 _ (List.mem_of_getElem? (i := 158) rfl)
set_option maxRecDepth 20000 in
theorem t_935 : Cond.instanceMethod yX4_arrival ∈ lw_tbl := tb_4 _ (List.mem_of_getElem? (i := 160) rfl)
theorem t_936 : Cond.selects RX4 yX4_arrival yX4_arrival ∈ lw_tbl := List.mem_append_left _ (List.mem_of_getElem? (i := 28) (by decide +kernel))
set_option maxRecDepth 20000 in
theorem t_937 : Cond.code yX4_seen cX4_seen 4 (some .int) ∈ lw_tbl := tb_4 _ (List.mem_of_getElem? (i := 166) rfl)
set_option maxRecDepth 20000 in
theorem t_938 : Cond.code yX4_worthOf cX4_worthOf 3 (some .int) ∈ lw_tbl := tb_4 _ (List.mem_of_getElem? (i := 180) rfl)
set_option maxRecDepth 20000 in
theorem t_939 : Cond.code yX5_cut cX5_cut 3 (some .long) ∈ lw_tbl := tb_5 _ (List.mem_of_getElem? (i := 157) rfl)
set_option maxRecDepth 20000 in
theorem t_940 : Cond.fieldLink RX5 19 "CardBowl$Slot" "width" "I" ∈ lw_tbl := tb_2 _ (List.mem_of_getElem? (i := 186) rfl)
set_option maxRecDepth 20000 in
theorem t_941 : Cond.code yX5_hasRun cX5_hasRun 3 (some .boolean) ∈ lw_tbl := tb_5 _ (List.mem_of_getElem? (i := 165) rfl)
set_option maxRecDepth 20000 in
theorem t_942 : Cond.fieldLink RX5 23 "CardBowl$Slot" "size" "I" ∈ lw_tbl := tb_2 _ (List.mem_of_getElem? (i := 188) rfl)
set_option maxRecDepth 20000 in
theorem t_943 : Cond.code yX5_init cX5_init 1 none ∈ lw_tbl := tb_2 _ (List.mem_of_getElem? (i := 182) rfl)
set_option maxRecDepth 20000 in
theorem t_944 : Cond.methodLink RX5 3 objectInit ∈ lw_tbl := tb_2 _ (List.mem_of_getElem? (i := 183) rfl)
set_option maxRecDepth 20000 in
theorem t_945 : Cond.fieldLink RX5 9 "CardBowl$Slot" "numbers" "[J" ∈ lw_tbl := tb_2 _ (List.mem_of_getElem? (i := 191) rfl)
set_option maxRecDepth 20000 in
theorem t_946 : Cond.code yX5_lay cX5_lay 3 none ∈ lw_tbl := tb_5 _ (List.mem_of_getElem? (i := 146) rfl)
set_option maxRecDepth 20000 in
theorem t_947 : Cond.fieldLink RX5 15 "CardBowl$Slot" "filled" "Z" ∈ lw_tbl := tb_2 _ (List.mem_of_getElem? (i := 184) rfl)
set_option maxRecDepth 20000 in
theorem t_948 : Cond.methodLink RX5 26 yJ7_fill_d0a16 ∈ lw_tbl := tb_5 _ (List.mem_of_getElem? (i := 147) rfl)
set_option maxRecDepth 20000 in
theorem t_949 : Cond.static yJ7_fill_d0a16 ∈ lw_tbl := tb_5 _ (List.mem_of_getElem? (i := 148) rfl)
set_option maxRecDepth 20000 in
theorem t_950 : Cond.code yX5_small cX5_small 2 (some .int) ∈ lw_tbl := tb_4 _ (List.mem_of_getElem? (i := 74) rfl)
set_option maxRecDepth 20000 in
theorem t_951 : Cond.constantLong RX5 32 (16) ∈ lw_tbl := tb_4 _ (List.mem_of_getElem? (i := 75) rfl)
set_option maxRecDepth 20000 in
theorem t_952 : Cond.code yX6_acquaint cX6_acquaint 3 none ∈ lw_tbl := tb_4 _ (List.mem_of_getElem? (i := 55) rfl)
set_option maxRecDepth 20000 in
theorem t_953 : Cond.code yX6_act cX6_act 5 (some .int) ∈ lw_tbl := tb_4 _ (List.mem_of_getElem? (i := 1) rfl)
set_option maxRecDepth 20000 in
theorem t_954 : Cond.fieldLink RX6 28 "CardBowl$State" "debts" "LCardBowl$Debts;" ∈ lw_tbl := tb_2 _ (List.mem_of_getElem? (i := 37) rfl)
set_option maxRecDepth 20000 in
theorem t_955 : Cond.fieldLink RX6 21 "CardBowl$State" "code" "LCardBowl$Code;" ∈ lw_tbl := tb_2 _ (List.mem_of_getElem? (i := 35) rfl)
set_option maxRecDepth 20000 in
theorem t_956 : Cond.fieldLink RX6 69 "CardBowl$State" "day" "I" ∈ lw_tbl := tb_2 _ (List.mem_of_getElem? (i := 44) rfl)
set_option maxRecDepth 20000 in
theorem t_957 : Cond.methodLink RX6 94 yX6_knew ∈ lw_tbl := tb_3 _ (List.mem_of_getElem? (i := 212) rfl)
set_option maxRecDepth 20000 in
theorem t_958 : Cond.initialized RX6 ∈ lw_tbl := tb_1 _ (List.mem_of_getElem? (i := 5) rfl)
set_option maxRecDepth 20000 in
theorem t_959 : Cond.instanceMethod yX6_knew ∈ lw_tbl := tb_3 _ (List.mem_of_getElem? (i := 213) rfl)
set_option maxRecDepth 20000 in
theorem t_960 : Cond.selects RX6 yX6_knew yX6_knew ∈ lw_tbl := tb_3 _ (List.mem_of_getElem? (i := 214) rfl)
set_option maxRecDepth 20000 in
theorem t_961 : Cond.methodLink RX6 110 yX6_deal ∈ lw_tbl := tb_4 _ (List.mem_of_getElem? (i := 2) rfl)
set_option maxRecDepth 20000 in
theorem t_962 : Cond.instanceMethod yX6_deal ∈ lw_tbl := tb_4 _ (List.mem_of_getElem? (i := 4) rfl)
theorem t_963 : Cond.selects RX6 yX6_deal yX6_deal ∈ lw_tbl := List.mem_append_left _ (List.mem_of_getElem? (i := 18) (by decide +kernel))
set_option maxRecDepth 20000 in
theorem t_964 : Cond.fieldLink RX6 72 "CardBowl$State" "paid" "I" ∈ lw_tbl := tb_2 _ (List.mem_of_getElem? (i := 48) rfl)
set_option maxRecDepth 20000 in
theorem t_965 : Cond.fieldLink RX6 35 "CardBowl$State" "deeds" "LCardBowl$Deeds;" ∈ lw_tbl := tb_2 _ (List.mem_of_getElem? (i := 40) rfl)
set_option maxRecDepth 20000 in
theorem t_966 : Cond.methodLink RX6 114 yX2_add ∈ lw_tbl := tb_4 _ (List.mem_of_getElem? (i := 49) rfl)
set_option maxRecDepth 20000 in
theorem t_967 : Cond.initialized RX2 ∈ lw_tbl := tb_1 _ (List.mem_of_getElem? (i := 7) rfl)
set_option maxRecDepth 20000 in
theorem t_968 : Cond.instanceMethod yX2_add ∈ lw_tbl := tb_4 _ (List.mem_of_getElem? (i := 50) rfl)
set_option maxRecDepth 20000 in
theorem t_969 : Cond.selects RX2 yX2_add yX2_add ∈ lw_tbl := tb_4 _ (List.mem_of_getElem? (i := 51) rfl)
set_option maxRecDepth 20000 in
theorem t_970 : Cond.fieldLink RX6 39 "CardBowl$State" "knows" "[I" ∈ lw_tbl := tb_2 _ (List.mem_of_getElem? (i := 42) rfl)
set_option maxRecDepth 20000 in
theorem t_971 : Cond.methodLink RX6 118 yX6_acquaint ∈ lw_tbl := tb_4 _ (List.mem_of_getElem? (i := 53) rfl)
set_option maxRecDepth 20000 in
theorem t_972 : Cond.static yX6_acquaint ∈ lw_tbl := tb_4 _ (List.mem_of_getElem? (i := 54) rfl)
set_option maxRecDepth 20000 in
theorem t_973 : Cond.code yX6_barrier cX6_barrier 4 (some .int) ∈ lw_tbl := tb_3 _ (List.mem_of_getElem? (i := 203) rfl)
set_option maxRecDepth 20000 in
theorem t_974 : Cond.fieldLink RX6 12 "CardBowl$State" "town" "LCardBowl$Town;" ∈ lw_tbl := tb_2 _ (List.mem_of_getElem? (i := 31) rfl)
set_option maxRecDepth 20000 in
theorem t_975 : Cond.methodLink RX6 81 yX7_isThere ∈ lw_tbl := tb_3 _ (List.mem_of_getElem? (i := 204) rfl)
set_option maxRecDepth 20000 in
theorem t_976 : Cond.instanceMethod yX7_isThere ∈ lw_tbl := tb_3 _ (List.mem_of_getElem? (i := 205) rfl)
set_option maxRecDepth 20000 in
theorem t_977 : Cond.selects RX7 yX7_isThere yX7_isThere ∈ lw_tbl := tb_3 _ (List.mem_of_getElem? (i := 206) rfl)
set_option maxRecDepth 20000 in
theorem t_978 : Cond.methodLink RX6 85 yX6_isOpenTo ∈ lw_tbl := tb_3 _ (List.mem_of_getElem? (i := 208) rfl)
set_option maxRecDepth 20000 in
theorem t_979 : Cond.instanceMethod yX6_isOpenTo ∈ lw_tbl := tb_3 _ (List.mem_of_getElem? (i := 210) rfl)
theorem t_980 : Cond.selects RX6 yX6_isOpenTo yX6_isOpenTo ∈ lw_tbl := List.mem_append_left _ (List.mem_of_getElem? (i := 17) (by decide +kernel))
set_option maxRecDepth 20000 in
theorem t_981 : Cond.fieldLink RX6 88 "CardBowl$Town" "weekday" "[I" ∈ lw_tbl := tb_1 _ (List.mem_of_getElem? (i := 66) rfl)
set_option maxRecDepth 20000 in
theorem t_982 : Cond.methodLink RX6 91 yX7_waits ∈ lw_tbl := tb_3 _ (List.mem_of_getElem? (i := 226) rfl)
set_option maxRecDepth 20000 in
theorem t_983 : Cond.instanceMethod yX7_waits ∈ lw_tbl := tb_3 _ (List.mem_of_getElem? (i := 227) rfl)
set_option maxRecDepth 20000 in
theorem t_984 : Cond.selects RX7 yX7_waits yX7_waits ∈ lw_tbl := tb_3 _ (List.mem_of_getElem? (i := 228) rfl)
set_option maxRecDepth 20000 in
theorem t_985 : Cond.code yX6_begin cX6_begin 3 none ∈ lw_tbl := tb_3 _ (List.mem_of_getElem? (i := 153) rfl)
set_option maxRecDepth 20000 in
theorem t_986 : Cond.methodLink RX6 46 yX7_copy ∈ lw_tbl := tb_3 _ (List.mem_of_getElem? (i := 154) rfl)
set_option maxRecDepth 20000 in
theorem t_987 : Cond.instanceMethod yX7_copy ∈ lw_tbl := tb_3 _ (List.mem_of_getElem? (i := 155) rfl)
set_option maxRecDepth 20000 in
theorem t_988 : Cond.selects RX7 yX7_copy yX7_copy ∈ lw_tbl := tb_3 _ (List.mem_of_getElem? (i := 156) rfl)
set_option maxRecDepth 20000 in
theorem t_989 : Cond.methodLink RX6 50 yX0_copy ∈ lw_tbl := tb_3 _ (List.mem_of_getElem? (i := 161) rfl)
set_option maxRecDepth 20000 in
theorem t_990 : Cond.instanceMethod yX0_copy ∈ lw_tbl := tb_3 _ (List.mem_of_getElem? (i := 162) rfl)
set_option maxRecDepth 20000 in
theorem t_991 : Cond.selects RX0 yX0_copy yX0_copy ∈ lw_tbl := tb_3 _ (List.mem_of_getElem? (i := 163) rfl)
set_option maxRecDepth 20000 in
theorem t_992 : Cond.methodLink RX6 53 yX1_clear ∈ lw_tbl := tb_3 _ (List.mem_of_getElem? (i := 166) rfl)
set_option maxRecDepth 20000 in
theorem t_993 : Cond.instanceMethod yX1_clear ∈ lw_tbl := tb_3 _ (List.mem_of_getElem? (i := 167) rfl)
set_option maxRecDepth 20000 in
theorem t_994 : Cond.selects RX1 yX1_clear yX1_clear ∈ lw_tbl := tb_3 _ (List.mem_of_getElem? (i := 168) rfl)
set_option maxRecDepth 20000 in
theorem t_995 : Cond.fieldLink RX6 56 "CardBowl$Deeds" "size" "I" ∈ lw_tbl := tb_2 _ (List.mem_of_getElem? (i := 10) rfl)
set_option maxRecDepth 20000 in
theorem t_996 : Cond.fieldLink RX6 60 "CardBowl$Town" "told" "[I" ∈ lw_tbl := tb_1 _ (List.mem_of_getElem? (i := 82) rfl)
set_option maxRecDepth 20000 in
theorem t_997 : Cond.methodLink RX6 63 arraycopyName ∈ lw_tbl := tb_3 _ (List.mem_of_getElem? (i := 171) rfl)
set_option maxRecDepth 20000 in
theorem t_998 : Cond.code yX6_canDrop cX6_canDrop 3 (some .boolean) ∈ lw_tbl := tb_5 _ (List.mem_of_getElem? (i := 53) rfl)
set_option maxRecDepth 20000 in
theorem t_999 : Cond.methodLink RX6 154 yX1_kindsOf ∈ lw_tbl := tb_4 _ (List.mem_of_getElem? (i := 43) rfl)
set_option maxRecDepth 20000 in
theorem t_1000 : Cond.methodLink RX6 171 yX6_holdsTogether ∈ lw_tbl := tb_5 _ (List.mem_of_getElem? (i := 54) rfl)
set_option maxRecDepth 20000 in
theorem t_1001 : Cond.instanceMethod yX6_holdsTogether ∈ lw_tbl := tb_5 _ (List.mem_of_getElem? (i := 55) rfl)
set_option maxRecDepth 20000 in
theorem t_1002 : Cond.selects RX6 yX6_holdsTogether yX6_holdsTogether ∈ lw_tbl := tb_5 _ (List.mem_of_getElem? (i := 56) rfl)
set_option maxRecDepth 20000 in
theorem t_1003 : Cond.code yX6_chance cX6_chance 4 (some .int) ∈ lw_tbl := tb_4 _ (List.mem_of_getElem? (i := 63) rfl)
set_option maxRecDepth 20000 in
theorem t_1004 : Cond.code yX6_copy cX6_copy 2 none ∈ lw_tbl := tb_5 _ (List.mem_of_getElem? (i := 124) rfl)
set_option maxRecDepth 20000 in
theorem t_1005 : Cond.methodLink RX6 75 yX1_copy ∈ lw_tbl := tb_5 _ (List.mem_of_getElem? (i := 125) rfl)
set_option maxRecDepth 20000 in
theorem t_1006 : Cond.instanceMethod yX1_copy ∈ lw_tbl := tb_5 _ (List.mem_of_getElem? (i := 126) rfl)
set_option maxRecDepth 20000 in
theorem t_1007 : Cond.selects RX1 yX1_copy yX1_copy ∈ lw_tbl := tb_5 _ (List.mem_of_getElem? (i := 127) rfl)
set_option maxRecDepth 20000 in
theorem t_1008 : Cond.methodLink RX6 78 yX2_copy ∈ lw_tbl := tb_5 _ (List.mem_of_getElem? (i := 130) rfl)
set_option maxRecDepth 20000 in
theorem t_1009 : Cond.instanceMethod yX2_copy ∈ lw_tbl := tb_5 _ (List.mem_of_getElem? (i := 131) rfl)
set_option maxRecDepth 20000 in
theorem t_1010 : Cond.selects RX2 yX2_copy yX2_copy ∈ lw_tbl := tb_5 _ (List.mem_of_getElem? (i := 132) rfl)
set_option maxRecDepth 20000 in
theorem t_1011 : Cond.code yX6_deal cX6_deal 10 (some .int) ∈ lw_tbl := tb_4 _ (List.mem_of_getElem? (i := 5) rfl)
set_option maxRecDepth 20000 in
theorem t_1012 : Cond.methodLink RX6 122 yX1_settle ∈ lw_tbl := tb_4 _ (List.mem_of_getElem? (i := 6) rfl)
set_option maxRecDepth 20000 in
theorem t_1013 : Cond.instanceMethod yX1_settle ∈ lw_tbl := tb_4 _ (List.mem_of_getElem? (i := 7) rfl)
set_option maxRecDepth 20000 in
theorem t_1014 : Cond.selects RX1 yX1_settle yX1_settle ∈ lw_tbl := tb_4 _ (List.mem_of_getElem? (i := 8) rfl)
set_option maxRecDepth 20000 in
theorem t_1015 : Cond.fieldLink RX6 126 "CardBowl$Town" "rank" "[I" ∈ lw_tbl := tb_1 _ (List.mem_of_getElem? (i := 61) rfl)
set_option maxRecDepth 20000 in
theorem t_1016 : Cond.fieldLink RX6 129 "CardBowl$Debts" "open" "[I" ∈ lw_tbl := tb_1 _ (List.mem_of_getElem? (i := 223) rfl)
set_option maxRecDepth 20000 in
theorem t_1017 : Cond.methodLink RX6 132 yX0_lineFor ∈ lw_tbl := tb_4 _ (List.mem_of_getElem? (i := 18) rfl)
set_option maxRecDepth 20000 in
theorem t_1018 : Cond.instanceMethod yX0_lineFor ∈ lw_tbl := tb_4 _ (List.mem_of_getElem? (i := 19) rfl)
set_option maxRecDepth 20000 in
theorem t_1019 : Cond.selects RX0 yX0_lineFor yX0_lineFor ∈ lw_tbl := tb_4 _ (List.mem_of_getElem? (i := 20) rfl)
set_option maxRecDepth 20000 in
theorem t_1020 : Cond.fieldLink RX6 136 "CardBowl$Code" "kind" "[I" ∈ lw_tbl := tb_1 _ (List.mem_of_getElem? (i := 126) rfl)
set_option maxRecDepth 20000 in
theorem t_1021 : Cond.methodLink RX6 139 yX6_isOwed ∈ lw_tbl := tb_4 _ (List.mem_of_getElem? (i := 40) rfl)
set_option maxRecDepth 20000 in
theorem t_1022 : Cond.static yX6_isOwed ∈ lw_tbl := tb_4 _ (List.mem_of_getElem? (i := 41) rfl)
set_option maxRecDepth 20000 in
theorem t_1023 : Cond.fieldLink RX6 143 "CardBowl$Code" "within" "[I" ∈ lw_tbl := tb_1 _ (List.mem_of_getElem? (i := 129) rfl)
set_option maxRecDepth 20000 in
theorem t_1024 : Cond.methodLink RX6 146 Lib.Math.min.name ∈ lw_tbl := tb_4 _ (List.mem_of_getElem? (i := 44) rfl)
set_option maxRecDepth 20000 in
theorem t_1025 : Cond.methodLink RX6 151 yX1_add ∈ lw_tbl := tb_4 _ (List.mem_of_getElem? (i := 45) rfl)
set_option maxRecDepth 20000 in
theorem t_1026 : Cond.instanceMethod yX1_add ∈ lw_tbl := tb_4 _ (List.mem_of_getElem? (i := 46) rfl)
set_option maxRecDepth 20000 in
theorem t_1027 : Cond.selects RX1 yX1_add yX1_add ∈ lw_tbl := tb_4 _ (List.mem_of_getElem? (i := 47) rfl)
set_option maxRecDepth 20000 in
theorem t_1028 : Cond.code yX6_followCalls cX6_followCalls 3 none ∈ lw_tbl := tb_5 _ (List.mem_of_getElem? (i := 71) rfl)
set_option maxRecDepth 20000 in
theorem t_1029 : Cond.fieldLink RX6 43 "CardBowl$State" "follows" "[I" ∈ lw_tbl := tb_2 _ (List.mem_of_getElem? (i := 50) rfl)
set_option maxRecDepth 20000 in
theorem t_1030 : Cond.fieldLink RX6 163 "CardBowl$Deeds" "what" "[I" ∈ lw_tbl := tb_2 _ (List.mem_of_getElem? (i := 17) rfl)
set_option maxRecDepth 20000 in
theorem t_1031 : Cond.fieldLink RX6 157 "CardBowl$Deeds" "who" "[I" ∈ lw_tbl := tb_2 _ (List.mem_of_getElem? (i := 13) rfl)
set_option maxRecDepth 20000 in
theorem t_1032 : Cond.fieldLink RX6 160 "CardBowl$Deeds" "whom" "[I" ∈ lw_tbl := tb_2 _ (List.mem_of_getElem? (i := 15) rfl)
set_option maxRecDepth 20000 in
theorem t_1033 : Cond.code yX6_hanging cX6_hanging 8 (some .int) ∈ lw_tbl := tb_5 _ (List.mem_of_getElem? (i := 45) rfl)
set_option maxRecDepth 20000 in
theorem t_1034 : Cond.code yX6_holdsTogether cX6_holdsTogether 3 (some .boolean) ∈ lw_tbl := tb_5 _ (List.mem_of_getElem? (i := 57) rfl)
set_option maxRecDepth 20000 in
theorem t_1035 : Cond.methodLink RX6 168 yX6_hanging ∈ lw_tbl := tb_5 _ (List.mem_of_getElem? (i := 58) rfl)
set_option maxRecDepth 20000 in
theorem t_1036 : Cond.instanceMethod yX6_hanging ∈ lw_tbl := tb_5 _ (List.mem_of_getElem? (i := 43) rfl)
set_option maxRecDepth 20000 in
theorem t_1037 : Cond.selects RX6 yX6_hanging yX6_hanging ∈ lw_tbl := tb_5 _ (List.mem_of_getElem? (i := 44) rfl)
set_option maxRecDepth 20000 in
theorem t_1038 : Cond.code yX6_init cX6_init 1 none ∈ lw_tbl := tb_1 _ (List.mem_of_getElem? (i := 197) rfl)
set_option maxRecDepth 20000 in
theorem t_1039 : Cond.methodLink RX6 3 objectInit ∈ lw_tbl := tb_1 _ (List.mem_of_getElem? (i := 198) rfl)
set_option maxRecDepth 20000 in
theorem t_1040 : Cond.classLink RX6 9 RX7 ∈ lw_tbl := tb_1 _ (List.mem_of_getElem? (i := 199) rfl)
set_option maxRecDepth 20000 in
theorem t_1041 : Cond.classLink RX6 18 RX0 ∈ lw_tbl := tb_1 _ (List.mem_of_getElem? (i := 201) rfl)
set_option maxRecDepth 20000 in
theorem t_1042 : Cond.classLink RX6 25 RX1 ∈ lw_tbl := tb_1 _ (List.mem_of_getElem? (i := 203) rfl)
set_option maxRecDepth 20000 in
theorem t_1043 : Cond.instantiable RX1 8 ∈ lw_tbl := tb_1 _ (List.mem_of_getElem? (i := 204) rfl)
set_option maxRecDepth 20000 in
theorem t_1044 : Cond.classLink RX6 32 RX2 ∈ lw_tbl := tb_2 _ (List.mem_of_getElem? (i := 3) rfl)
set_option maxRecDepth 20000 in
theorem t_1045 : Cond.instantiable RX2 5 ∈ lw_tbl := tb_2 _ (List.mem_of_getElem? (i := 4) rfl)
set_option maxRecDepth 20000 in
theorem t_1046 : Cond.code yX6_isOpenTo cX6_isOpenTo 3 (some .boolean) ∈ lw_tbl := tb_3 _ (List.mem_of_getElem? (i := 211) rfl)
set_option maxRecDepth 20000 in
theorem t_1047 : Cond.methodLink RX6 98 yX7_isNew ∈ lw_tbl := tb_3 _ (List.mem_of_getElem? (i := 216) rfl)
set_option maxRecDepth 20000 in
theorem t_1048 : Cond.instanceMethod yX7_isNew ∈ lw_tbl := tb_3 _ (List.mem_of_getElem? (i := 217) rfl)
set_option maxRecDepth 20000 in
theorem t_1049 : Cond.selects RX7 yX7_isNew yX7_isNew ∈ lw_tbl := tb_3 _ (List.mem_of_getElem? (i := 218) rfl)
set_option maxRecDepth 20000 in
theorem t_1050 : Cond.methodLink RX6 101 yJ6_bitCount_0f7a4 ∈ lw_tbl := tb_3 _ (List.mem_of_getElem? (i := 220) rfl)
set_option maxRecDepth 20000 in
theorem t_1051 : Cond.static yJ6_bitCount_0f7a4 ∈ lw_tbl := tb_3 _ (List.mem_of_getElem? (i := 221) rfl)
set_option maxRecDepth 20000 in
theorem t_1052 : Cond.fieldLink RX6 107 "CardBowl$Town" "introducers" "I" ∈ lw_tbl := tb_1 _ (List.mem_of_getElem? (i := 51) rfl)
set_option maxRecDepth 20000 in
theorem t_1053 : Cond.code yX6_isOwed cX6_isOwed 4 (some .boolean) ∈ lw_tbl := tb_4 _ (List.mem_of_getElem? (i := 42) rfl)
set_option maxRecDepth 20000 in
theorem t_1054 : Cond.code yX6_knew cX6_knew 3 (some .int) ∈ lw_tbl := tb_3 _ (List.mem_of_getElem? (i := 215) rfl)
set_option maxRecDepth 20000 in
theorem t_1055 : Cond.code yX6_replay cX6_replay 8 none ∈ lw_tbl := tb_5 _ (List.mem_of_getElem? (i := 104) rfl)
set_option maxRecDepth 20000 in
theorem t_1056 : Cond.fieldLink RX6 166 "CardBowl$Deeds" "day" "[I" ∈ lw_tbl := tb_2 _ (List.mem_of_getElem? (i := 19) rfl)
set_option maxRecDepth 20000 in
theorem t_1057 : Cond.code yX6_ringBits cX6_ringBits 4 (some .int) ∈ lw_tbl := tb_5 _ (List.mem_of_getElem? (i := 75) rfl)
set_option maxRecDepth 20000 in
theorem t_1058 : Cond.code yX6_wouldMake cX6_wouldMake 5 (some .int) ∈ lw_tbl := tb_4 _ (List.mem_of_getElem? (i := 115) rfl)
set_option maxRecDepth 20000 in
theorem t_1059 : Cond.code yX7_clear cX7_clear 1 none ∈ lw_tbl := tb_3 _ (List.mem_of_getElem? (i := 20) rfl)
set_option maxRecDepth 20000 in
theorem t_1060 : Cond.fieldLink RX7 43 "CardBowl$Town" "houses" "I" ∈ lw_tbl := tb_1 _ (List.mem_of_getElem? (i := 40) rfl)
set_option maxRecDepth 20000 in
theorem t_1061 : Cond.fieldLink RX7 46 "CardBowl$Town" "fresh" "I" ∈ lw_tbl := tb_1 _ (List.mem_of_getElem? (i := 45) rfl)
set_option maxRecDepth 20000 in
theorem t_1062 : Cond.fieldLink RX7 11 "CardBowl$Town" "introducers" "I" ∈ lw_tbl := tb_1 _ (List.mem_of_getElem? (i := 48) rfl)
set_option maxRecDepth 20000 in
theorem t_1063 : Cond.fieldLink RX7 40 "CardBowl$Town" "told" "[I" ∈ lw_tbl := tb_1 _ (List.mem_of_getElem? (i := 81) rfl)
set_option maxRecDepth 20000 in
theorem t_1064 : Cond.methodLink RX7 49 yJ7_fill_53178 ∈ lw_tbl := tb_3 _ (List.mem_of_getElem? (i := 21) rfl)
set_option maxRecDepth 20000 in
theorem t_1065 : Cond.code yX7_copy cX7_copy 2 none ∈ lw_tbl := tb_3 _ (List.mem_of_getElem? (i := 157) rfl)
set_option maxRecDepth 20000 in
theorem t_1066 : Cond.fieldLink RX7 15 "CardBowl$Town" "x" "[I" ∈ lw_tbl := tb_1 _ (List.mem_of_getElem? (i := 53) rfl)
set_option maxRecDepth 20000 in
theorem t_1067 : Cond.methodLink RX7 55 arraycopyName ∈ lw_tbl := tb_3 _ (List.mem_of_getElem? (i := 158) rfl)
set_option maxRecDepth 20000 in
theorem t_1068 : Cond.fieldLink RX7 19 "CardBowl$Town" "y" "[I" ∈ lw_tbl := tb_1 _ (List.mem_of_getElem? (i := 56) rfl)
set_option maxRecDepth 20000 in
theorem t_1069 : Cond.fieldLink RX7 22 "CardBowl$Town" "rank" "[I" ∈ lw_tbl := tb_1 _ (List.mem_of_getElem? (i := 59) rfl)
set_option maxRecDepth 20000 in
theorem t_1070 : Cond.fieldLink RX7 25 "CardBowl$Town" "weekday" "[I" ∈ lw_tbl := tb_1 _ (List.mem_of_getElem? (i := 63) rfl)
set_option maxRecDepth 20000 in
theorem t_1071 : Cond.fieldLink RX7 28 "CardBowl$Town" "from" "[I" ∈ lw_tbl := tb_1 _ (List.mem_of_getElem? (i := 68) rfl)
set_option maxRecDepth 20000 in
theorem t_1072 : Cond.fieldLink RX7 31 "CardBowl$Town" "to" "[I" ∈ lw_tbl := tb_1 _ (List.mem_of_getElem? (i := 72) rfl)
set_option maxRecDepth 20000 in
theorem t_1073 : Cond.fieldLink RX7 34 "CardBowl$Town" "came" "[I" ∈ lw_tbl := tb_1 _ (List.mem_of_getElem? (i := 76) rfl)
set_option maxRecDepth 20000 in
theorem t_1074 : Cond.fieldLink RX7 37 "CardBowl$Town" "bride" "[I" ∈ lw_tbl := tb_1 _ (List.mem_of_getElem? (i := 79) rfl)
set_option maxRecDepth 20000 in
theorem t_1075 : Cond.code yX7_has cX7_has 2 (some .boolean) ∈ lw_tbl := tb_3 _ (List.mem_of_getElem? (i := 199) rfl)
set_option maxRecDepth 20000 in
theorem t_1076 : Cond.code yX7_hasPair cX7_hasPair 3 (some .boolean) ∈ lw_tbl := tb_3 _ (List.mem_of_getElem? (i := 195) rfl)
set_option maxRecDepth 20000 in
theorem t_1077 : Cond.methodLink RX7 61 yX7_has ∈ lw_tbl := tb_3 _ (List.mem_of_getElem? (i := 196) rfl)
set_option maxRecDepth 20000 in
theorem t_1078 : Cond.code yX7_init cX7_init 1 none ∈ lw_tbl := tb_1 _ (List.mem_of_getElem? (i := 38) rfl)
set_option maxRecDepth 20000 in
theorem t_1079 : Cond.methodLink RX7 3 objectInit ∈ lw_tbl := tb_1 _ (List.mem_of_getElem? (i := 39) rfl)
set_option maxRecDepth 20000 in
theorem t_1080 : Cond.code yX7_isNew cX7_isNew 3 (some .boolean) ∈ lw_tbl := tb_3 _ (List.mem_of_getElem? (i := 219) rfl)
set_option maxRecDepth 20000 in
theorem t_1081 : Cond.code yX7_isThere cX7_isThere 3 (some .boolean) ∈ lw_tbl := tb_3 _ (List.mem_of_getElem? (i := 207) rfl)
set_option maxRecDepth 20000 in
theorem t_1082 : Cond.code yX7_minutes cX7_minutes 3 (some .int) ∈ lw_tbl := tb_4 _ (List.mem_of_getElem? (i := 143) rfl)
set_option maxRecDepth 20000 in
theorem t_1083 : Cond.methodLink RX7 65 Lib.Math.abs.name ∈ lw_tbl := tb_4 _ (List.mem_of_getElem? (i := 144) rfl)
set_option maxRecDepth 20000 in
theorem t_1084 : Cond.code yX7_waits cX7_waits 3 (some .boolean) ∈ lw_tbl := tb_3 _ (List.mem_of_getElem? (i := 229) rfl)
set_option maxRecDepth 20000 in
theorem t_1085 : Cond.code yX8_everyoneToKnow cX8_everyoneToKnow 7 (some .int) ∈ lw_tbl := tb_5 _ (List.mem_of_getElem? (i := 15) rfl)
set_option maxRecDepth 20000 in
theorem t_1086 : Cond.fieldLink RX8 54 "CardBowl$State" "knows" "[I" ∈ lw_tbl := tb_2 _ (List.mem_of_getElem? (i := 43) rfl)
set_option maxRecDepth 20000 in
theorem t_1087 : Cond.fieldLink RX8 64 "CardBowl$State" "town" "LCardBowl$Town;" ∈ lw_tbl := tb_2 _ (List.mem_of_getElem? (i := 33) rfl)
set_option maxRecDepth 20000 in
theorem t_1088 : Cond.fieldLink RX8 68 "CardBowl$Town" "houses" "I" ∈ lw_tbl := tb_1 _ (List.mem_of_getElem? (i := 42) rfl)
set_option maxRecDepth 20000 in
theorem t_1089 : Cond.fieldLink RX8 73 "CardBowl$State" "day" "I" ∈ lw_tbl := tb_2 _ (List.mem_of_getElem? (i := 45) rfl)
set_option maxRecDepth 20000 in
theorem t_1090 : Cond.methodLink RX8 76 yX7_isThere ∈ lw_tbl := tb_5 _ (List.mem_of_getElem? (i := 16) rfl)
set_option maxRecDepth 20000 in
theorem t_1091 : Cond.methodLink RX8 80 yJ6_bitCount_0f7a4 ∈ lw_tbl := tb_5 _ (List.mem_of_getElem? (i := 17) rfl)
set_option maxRecDepth 20000 in
theorem t_1092 : Cond.fieldLink RX8 86 "CardBowl$Town" "introducers" "I" ∈ lw_tbl := tb_1 _ (List.mem_of_getElem? (i := 50) rfl)
set_option maxRecDepth 20000 in
theorem t_1093 : Cond.code yX8_gather cX8_gather 5 none ∈ lw_tbl := tb_5 _ (List.mem_of_getElem? (i := 21) rfl)
set_option maxRecDepth 20000 in
theorem t_1094 : Cond.fieldLink RX8 89 "CardBowl$Ways" "between" "I" ∈ lw_tbl := tb_2 _ (List.mem_of_getElem? (i := 148) rfl)
set_option maxRecDepth 20000 in
theorem t_1095 : Cond.fieldLink RX8 22 "CardBowl$Ways" "house" "[I" ∈ lw_tbl := tb_2 _ (List.mem_of_getElem? (i := 149) rfl)
set_option maxRecDepth 20000 in
theorem t_1096 : Cond.fieldLink RX8 25 "CardBowl$Ways" "friends" "[I" ∈ lw_tbl := tb_2 _ (List.mem_of_getElem? (i := 150) rfl)
set_option maxRecDepth 20000 in
theorem t_1097 : Cond.fieldLink RX8 28 "CardBowl$Ways" "links" "[I" ∈ lw_tbl := tb_2 _ (List.mem_of_getElem? (i := 151) rfl)
set_option maxRecDepth 20000 in
theorem t_1098 : Cond.methodLink RX8 92 yX8_linksOf ∈ lw_tbl := tb_5 _ (List.mem_of_getElem? (i := 22) rfl)
set_option maxRecDepth 20000 in
theorem t_1099 : Cond.initialized RX8 ∈ lw_tbl := tb_1 _ (List.mem_of_getElem? (i := 9) rfl)
set_option maxRecDepth 20000 in
theorem t_1100 : Cond.instanceMethod yX8_linksOf ∈ lw_tbl := tb_5 _ (List.mem_of_getElem? (i := 24) rfl)
theorem t_1101 : Cond.selects RX8 yX8_linksOf yX8_linksOf ∈ lw_tbl := List.mem_append_left _ (List.mem_of_getElem? (i := 39) (by decide +kernel))
set_option maxRecDepth 20000 in
theorem t_1102 : Cond.code yX8_init cX8_init 1 none ∈ lw_tbl := tb_2 _ (List.mem_of_getElem? (i := 138) rfl)
set_option maxRecDepth 20000 in
theorem t_1103 : Cond.methodLink RX8 5 objectInit ∈ lw_tbl := tb_2 _ (List.mem_of_getElem? (i := 139) rfl)
set_option maxRecDepth 20000 in
theorem t_1104 : Cond.fieldLink RX8 11 "CardBowl$Ways" "calls" "[I" ∈ lw_tbl := tb_2 _ (List.mem_of_getElem? (i := 144) rfl)
set_option maxRecDepth 20000 in
theorem t_1105 : Cond.fieldLink RX8 15 "CardBowl$Ways" "caller" "I" ∈ lw_tbl := tb_2 _ (List.mem_of_getElem? (i := 146) rfl)
set_option maxRecDepth 20000 in
theorem t_1106 : Cond.fieldLink RX8 19 "CardBowl$Ways" "goal" "I" ∈ lw_tbl := tb_2 _ (List.mem_of_getElem? (i := 147) rfl)
set_option maxRecDepth 20000 in
theorem t_1107 : Cond.fieldLink RX8 31 "CardBowl$Ways" "queue" "[I" ∈ lw_tbl := tb_2 _ (List.mem_of_getElem? (i := 152) rfl)
set_option maxRecDepth 20000 in
theorem t_1108 : Cond.fieldLink RX8 34 "CardBowl$Ways" "latest" "[I" ∈ lw_tbl := tb_2 _ (List.mem_of_getElem? (i := 153) rfl)
set_option maxRecDepth 20000 in
theorem t_1109 : Cond.code yX8_linksOf cX8_linksOf 5 (some .int) ∈ lw_tbl := tb_5 _ (List.mem_of_getElem? (i := 25) rfl)
set_option maxRecDepth 20000 in
theorem t_1110 : Cond.methodLink RX8 44 yX6_knew ∈ lw_tbl := tb_5 _ (List.mem_of_getElem? (i := 12) rfl)
set_option maxRecDepth 20000 in
theorem t_1111 : Cond.code yX8_search cX8_search 13 none ∈ lw_tbl := tb_5 _ (List.mem_of_getElem? (i := 29) rfl)
set_option maxRecDepth 20000 in
theorem t_1112 : Cond.methodLink RX8 95 yX8_tell ∈ lw_tbl := tb_5 _ (List.mem_of_getElem? (i := 30) rfl)
set_option maxRecDepth 20000 in
theorem t_1113 : Cond.instanceMethod yX8_tell ∈ lw_tbl := tb_5 _ (List.mem_of_getElem? (i := 32) rfl)
theorem t_1114 : Cond.selects RX8 yX8_tell yX8_tell ∈ lw_tbl := List.mem_append_left _ (List.mem_of_getElem? (i := 41) (by decide +kernel))
set_option maxRecDepth 20000 in
theorem t_1115 : Cond.code yX8_seek cX8_seek 5 none ∈ lw_tbl := tb_5 _ (List.mem_of_getElem? (i := 11) rfl)
set_option maxRecDepth 20000 in
theorem t_1116 : Cond.fieldLink RX8 37 "CardBowl$Ways" "sought" "Z" ∈ lw_tbl := tb_2 _ (List.mem_of_getElem? (i := 140) rfl)
set_option maxRecDepth 20000 in
theorem t_1117 : Cond.fieldLink RX8 41 "CardBowl$Ways" "length" "I" ∈ lw_tbl := tb_2 _ (List.mem_of_getElem? (i := 142) rfl)
set_option maxRecDepth 20000 in
theorem t_1118 : Cond.methodLink RX8 50 yX8_everyoneToKnow ∈ lw_tbl := tb_5 _ (List.mem_of_getElem? (i := 13) rfl)
set_option maxRecDepth 20000 in
theorem t_1119 : Cond.static yX8_everyoneToKnow ∈ lw_tbl := tb_5 _ (List.mem_of_getElem? (i := 14) rfl)
set_option maxRecDepth 20000 in
theorem t_1120 : Cond.methodLink RX8 57 yX8_gather ∈ lw_tbl := tb_5 _ (List.mem_of_getElem? (i := 18) rfl)
set_option maxRecDepth 20000 in
theorem t_1121 : Cond.instanceMethod yX8_gather ∈ lw_tbl := tb_5 _ (List.mem_of_getElem? (i := 20) rfl)
theorem t_1122 : Cond.selects RX8 yX8_gather yX8_gather ∈ lw_tbl := List.mem_append_left _ (List.mem_of_getElem? (i := 38) (by decide +kernel))
set_option maxRecDepth 20000 in
theorem t_1123 : Cond.methodLink RX8 61 yX8_search ∈ lw_tbl := tb_5 _ (List.mem_of_getElem? (i := 26) rfl)
set_option maxRecDepth 20000 in
theorem t_1124 : Cond.instanceMethod yX8_search ∈ lw_tbl := tb_5 _ (List.mem_of_getElem? (i := 28) rfl)
theorem t_1125 : Cond.selects RX8 yX8_search yX8_search ∈ lw_tbl := List.mem_append_left _ (List.mem_of_getElem? (i := 40) (by decide +kernel))
set_option maxRecDepth 20000 in
theorem t_1126 : Cond.code yX8_tell cX8_tell 6 none ∈ lw_tbl := tb_5 _ (List.mem_of_getElem? (i := 33) rfl)
set_option maxRecDepth 20000 in
theorem t_1127 : Cond.code yX9_back cX9_back 3 (some .int) ∈ lw_tbl := tb_5 _ (List.mem_of_getElem? (i := 138) rfl)
set_option maxRecDepth 20000 in
theorem t_1128 : Cond.methodLink RX9 271 yX9_isImage ∈ lw_tbl := tb_5 _ (List.mem_of_getElem? (i := 98) rfl)
set_option maxRecDepth 20000 in
theorem t_1129 : Cond.static yX9_isImage ∈ lw_tbl := tb_5 _ (List.mem_of_getElem? (i := 99) rfl)
set_option maxRecDepth 20000 in
theorem t_1130 : Cond.fieldLink RX9 27 "CardBowl" "images" "[LCardBowl$State;" ∈ lw_tbl := tb_2 _ (List.mem_of_getElem? (i := 207) rfl)
set_option maxRecDepth 20000 in
theorem t_1131 : Cond.fieldLink RX9 23 "CardBowl" "state" "LCardBowl$State;" ∈ lw_tbl := tb_2 _ (List.mem_of_getElem? (i := 206) rfl)
set_option maxRecDepth 20000 in
theorem t_1132 : Cond.methodLink RX9 302 yX6_copy ∈ lw_tbl := tb_5 _ (List.mem_of_getElem? (i := 121) rfl)
set_option maxRecDepth 20000 in
theorem t_1133 : Cond.instanceMethod yX6_copy ∈ lw_tbl := tb_5 _ (List.mem_of_getElem? (i := 122) rfl)
set_option maxRecDepth 20000 in
theorem t_1134 : Cond.selects RX6 yX6_copy yX6_copy ∈ lw_tbl := tb_5 _ (List.mem_of_getElem? (i := 123) rfl)
set_option maxRecDepth 20000 in
theorem t_1135 : Cond.methodLink RX9 90 yX9_forget ∈ lw_tbl := tb_3 _ (List.mem_of_getElem? (i := 172) rfl)
set_option maxRecDepth 20000 in
theorem t_1136 : Cond.instanceMethod yX9_forget ∈ lw_tbl := tb_3 _ (List.mem_of_getElem? (i := 174) rfl)
theorem t_1137 : Cond.selects RX9 yX9_forget yX9_forget ∈ lw_tbl := List.mem_append_left _ (List.mem_of_getElem? (i := 15) (by decide +kernel))
set_option maxRecDepth 20000 in
theorem t_1138 : Cond.code yX9_bars cX9_bars 4 (some .int) ∈ lw_tbl := tb_3 _ (List.mem_of_getElem? (i := 187) rfl)
set_option maxRecDepth 20000 in
theorem t_1139 : Cond.methodLink RX9 105 yX9_isDeed ∈ lw_tbl := tb_3 _ (List.mem_of_getElem? (i := 188) rfl)
set_option maxRecDepth 20000 in
theorem t_1140 : Cond.instanceMethod yX9_isDeed ∈ lw_tbl := tb_3 _ (List.mem_of_getElem? (i := 190) rfl)
theorem t_1141 : Cond.selects RX9 yX9_isDeed yX9_isDeed ∈ lw_tbl := List.mem_append_left _ (List.mem_of_getElem? (i := 16) (by decide +kernel))
set_option maxRecDepth 20000 in
theorem t_1142 : Cond.methodLink RX9 109 yX6_barrier ∈ lw_tbl := tb_3 _ (List.mem_of_getElem? (i := 200) rfl)
set_option maxRecDepth 20000 in
theorem t_1143 : Cond.instanceMethod yX6_barrier ∈ lw_tbl := tb_3 _ (List.mem_of_getElem? (i := 201) rfl)
set_option maxRecDepth 20000 in
theorem t_1144 : Cond.selects RX6 yX6_barrier yX6_barrier ∈ lw_tbl := tb_3 _ (List.mem_of_getElem? (i := 202) rfl)
set_option maxRecDepth 20000 in
theorem t_1145 : Cond.code yX9_beside cX9_beside 3 (some .int) ∈ lw_tbl := tb_5 _ (List.mem_of_getElem? (i := 97) rfl)
set_option maxRecDepth 20000 in
theorem t_1146 : Cond.fieldLink RX9 274 "CardBowl$State" "code" "LCardBowl$Code;" ∈ lw_tbl := tb_2 _ (List.mem_of_getElem? (i := 36) rfl)
set_option maxRecDepth 20000 in
theorem t_1147 : Cond.fieldLink RX9 54 "CardBowl" "otherDebts" "LCardBowl$Debts;" ∈ lw_tbl := tb_2 _ (List.mem_of_getElem? (i := 211) rfl)
set_option maxRecDepth 20000 in
theorem t_1148 : Cond.fieldLink RX9 58 "CardBowl" "otherKnows" "[I" ∈ lw_tbl := tb_2 _ (List.mem_of_getElem? (i := 212) rfl)
set_option maxRecDepth 20000 in
theorem t_1149 : Cond.methodLink RX9 275 yX6_replay ∈ lw_tbl := tb_5 _ (List.mem_of_getElem? (i := 101) rfl)
set_option maxRecDepth 20000 in
theorem t_1150 : Cond.instanceMethod yX6_replay ∈ lw_tbl := tb_5 _ (List.mem_of_getElem? (i := 102) rfl)
set_option maxRecDepth 20000 in
theorem t_1151 : Cond.selects RX6 yX6_replay yX6_replay ∈ lw_tbl := tb_5 _ (List.mem_of_getElem? (i := 103) rfl)
set_option maxRecDepth 20000 in
theorem t_1152 : Cond.fieldLink RX9 279 "CardBowl$Debts" "size" "I" ∈ lw_tbl := tb_1 _ (List.mem_of_getElem? (i := 210) rfl)
set_option maxRecDepth 20000 in
theorem t_1153 : Cond.code yX9_count cX9_count 2 (some .int) ∈ lw_tbl := tb_5 _ (List.mem_of_getElem? (i := 108) rfl)
set_option maxRecDepth 20000 in
theorem t_1154 : Cond.fieldLink RX9 93 "CardBowl$State" "town" "LCardBowl$Town;" ∈ lw_tbl := tb_2 _ (List.mem_of_getElem? (i := 34) rfl)
set_option maxRecDepth 20000 in
theorem t_1155 : Cond.fieldLink RX9 94 "CardBowl$Town" "houses" "I" ∈ lw_tbl := tb_1 _ (List.mem_of_getElem? (i := 43) rfl)
set_option maxRecDepth 20000 in
theorem t_1156 : Cond.fieldLink RX9 280 "CardBowl$Code" "lines" "I" ∈ lw_tbl := tb_1 _ (List.mem_of_getElem? (i := 119) rfl)
set_option maxRecDepth 20000 in
theorem t_1157 : Cond.fieldLink RX9 102 "CardBowl$State" "day" "I" ∈ lw_tbl := tb_2 _ (List.mem_of_getElem? (i := 46) rfl)
set_option maxRecDepth 20000 in
theorem t_1158 : Cond.fieldLink RX9 161 "CardBowl$State" "debts" "LCardBowl$Debts;" ∈ lw_tbl := tb_2 _ (List.mem_of_getElem? (i := 39) rfl)
set_option maxRecDepth 20000 in
theorem t_1159 : Cond.methodLink RX9 285 yX1_overdue ∈ lw_tbl := tb_5 _ (List.mem_of_getElem? (i := 109) rfl)
set_option maxRecDepth 20000 in
theorem t_1160 : Cond.instanceMethod yX1_overdue ∈ lw_tbl := tb_5 _ (List.mem_of_getElem? (i := 110) rfl)
set_option maxRecDepth 20000 in
theorem t_1161 : Cond.selects RX1 yX1_overdue yX1_overdue ∈ lw_tbl := tb_5 _ (List.mem_of_getElem? (i := 111) rfl)
set_option maxRecDepth 20000 in
theorem t_1162 : Cond.fieldLink RX9 113 "CardBowl$State" "deeds" "LCardBowl$Deeds;" ∈ lw_tbl := tb_2 _ (List.mem_of_getElem? (i := 41) rfl)
set_option maxRecDepth 20000 in
theorem t_1163 : Cond.fieldLink RX9 288 "CardBowl$Deeds" "size" "I" ∈ lw_tbl := tb_2 _ (List.mem_of_getElem? (i := 11) rfl)
set_option maxRecDepth 20000 in
theorem t_1164 : Cond.fieldLink RX9 289 "CardBowl$State" "paid" "I" ∈ lw_tbl := tb_2 _ (List.mem_of_getElem? (i := 49) rfl)
set_option maxRecDepth 20000 in
theorem t_1165 : Cond.fieldLink RX9 63 "CardBowl" "tapeSize" "I" ∈ lw_tbl := tb_2 _ (List.mem_of_getElem? (i := 204) rfl)
set_option maxRecDepth 20000 in
theorem t_1166 : Cond.fieldLink RX9 292 "CardBowl$Town" "introducers" "I" ∈ lw_tbl := tb_1 _ (List.mem_of_getElem? (i := 52) rfl)
set_option maxRecDepth 20000 in
theorem t_1167 : Cond.fieldLink RX9 295 "CardBowl$Town" "fresh" "I" ∈ lw_tbl := tb_1 _ (List.mem_of_getElem? (i := 47) rfl)
set_option maxRecDepth 20000 in
theorem t_1168 : Cond.methodLink RX9 298 yX9_filledSlots ∈ lw_tbl := tb_5 _ (List.mem_of_getElem? (i := 113) rfl)
set_option maxRecDepth 20000 in
theorem t_1169 : Cond.instanceMethod yX9_filledSlots ∈ lw_tbl := tb_5 _ (List.mem_of_getElem? (i := 115) rfl)
theorem t_1170 : Cond.selects RX9 yX9_filledSlots yX9_filledSlots ∈ lw_tbl := List.mem_append_left _ (List.mem_of_getElem? (i := 42) (by decide +kernel))
set_option maxRecDepth 20000 in
theorem t_1171 : Cond.code yX9_days cX9_days 2 (some .int) ∈ lw_tbl := tb_3 _ (List.mem_of_getElem? (i := 183) rfl)
set_option maxRecDepth 20000 in
theorem t_1172 : Cond.code yX9_debt cX9_debt 5 (some .int) ∈ lw_tbl := tb_4 _ (List.mem_of_getElem? (i := 91) rfl)
set_option maxRecDepth 20000 in
theorem t_1173 : Cond.methodLink RX9 158 yX7_has ∈ lw_tbl := tb_4 _ (List.mem_of_getElem? (i := 87) rfl)
set_option maxRecDepth 20000 in
theorem t_1174 : Cond.methodLink RX9 167 yX1_nth ∈ lw_tbl := tb_4 _ (List.mem_of_getElem? (i := 92) rfl)
set_option maxRecDepth 20000 in
theorem t_1175 : Cond.fieldLink RX9 170 "CardBowl$Debts" "creditor" "[I" ∈ lw_tbl := tb_1 _ (List.mem_of_getElem? (i := 213) rfl)
set_option maxRecDepth 20000 in
theorem t_1176 : Cond.fieldLink RX9 173 "CardBowl$Debts" "kind" "[I" ∈ lw_tbl := tb_1 _ (List.mem_of_getElem? (i := 216) rfl)
set_option maxRecDepth 20000 in
theorem t_1177 : Cond.fieldLink RX9 176 "CardBowl$Debts" "due" "[I" ∈ lw_tbl := tb_1 _ (List.mem_of_getElem? (i := 218) rfl)
set_option maxRecDepth 20000 in
theorem t_1178 : Cond.fieldLink RX9 179 "CardBowl$Debts" "came" "[I" ∈ lw_tbl := tb_1 _ (List.mem_of_getElem? (i := 221) rfl)
set_option maxRecDepth 20000 in
theorem t_1179 : Cond.code yX9_debts cX9_debts 2 (some .int) ∈ lw_tbl := tb_4 _ (List.mem_of_getElem? (i := 86) rfl)
set_option maxRecDepth 20000 in
theorem t_1180 : Cond.fieldLink RX9 164 "CardBowl$Debts" "open" "[I" ∈ lw_tbl := tb_1 _ (List.mem_of_getElem? (i := 224) rfl)
set_option maxRecDepth 20000 in
theorem t_1181 : Cond.code yX9_does cX9_does 4 (some .int) ∈ lw_tbl := tb_3 _ (List.mem_of_getElem? (i := 233) rfl)
set_option maxRecDepth 20000 in
theorem t_1182 : Cond.methodLink RX9 117 yX2_isFull ∈ lw_tbl := tb_3 _ (List.mem_of_getElem? (i := 234) rfl)
set_option maxRecDepth 20000 in
theorem t_1183 : Cond.instanceMethod yX2_isFull ∈ lw_tbl := tb_3 _ (List.mem_of_getElem? (i := 235) rfl)
set_option maxRecDepth 20000 in
theorem t_1184 : Cond.selects RX2 yX2_isFull yX2_isFull ∈ lw_tbl := tb_3 _ (List.mem_of_getElem? (i := 236) rfl)
set_option maxRecDepth 20000 in
theorem t_1185 : Cond.methodLink RX9 123 yX6_act ∈ lw_tbl := tb_3 _ (List.mem_of_getElem? (i := 238) rfl)
set_option maxRecDepth 20000 in
theorem t_1186 : Cond.instanceMethod yX6_act ∈ lw_tbl := tb_3 _ (List.mem_of_getElem? (i := 239) rfl)
set_option maxRecDepth 20000 in
theorem t_1187 : Cond.selects RX6 yX6_act yX6_act ∈ lw_tbl := tb_4 _ (List.mem_of_getElem? (i := 0) rfl)
set_option maxRecDepth 20000 in
theorem t_1188 : Cond.code yX9_done cX9_done 9 (some .int) ∈ lw_tbl := tb_4 _ (List.mem_of_getElem? (i := 67) rfl)
set_option maxRecDepth 20000 in
theorem t_1189 : Cond.methodLink RX9 134 yX9_isSlot ∈ lw_tbl := tb_4 _ (List.mem_of_getElem? (i := 68) rfl)
set_option maxRecDepth 20000 in
theorem t_1190 : Cond.static yX9_isSlot ∈ lw_tbl := tb_4 _ (List.mem_of_getElem? (i := 69) rfl)
set_option maxRecDepth 20000 in
theorem t_1191 : Cond.fieldLink RX9 33 "CardBowl" "slots" "[LCardBowl$Slot;" ∈ lw_tbl := tb_2 _ (List.mem_of_getElem? (i := 208) rfl)
set_option maxRecDepth 20000 in
theorem t_1192 : Cond.fieldLink RX9 138 "CardBowl$Slot" "filled" "Z" ∈ lw_tbl := tb_2 _ (List.mem_of_getElem? (i := 185) rfl)
set_option maxRecDepth 20000 in
theorem t_1193 : Cond.fieldLink RX9 142 "CardBowl$Slot" "size" "I" ∈ lw_tbl := tb_2 _ (List.mem_of_getElem? (i := 189) rfl)
set_option maxRecDepth 20000 in
theorem t_1194 : Cond.methodLink RX9 145 yX5_small ∈ lw_tbl := tb_4 _ (List.mem_of_getElem? (i := 71) rfl)
set_option maxRecDepth 20000 in
theorem t_1195 : Cond.methodLink RX9 149 yX9_meet ∈ lw_tbl := tb_4 _ (List.mem_of_getElem? (i := 76) rfl)
set_option maxRecDepth 20000 in
theorem t_1196 : Cond.methodLink RX9 152 yX9_does ∈ lw_tbl := tb_4 _ (List.mem_of_getElem? (i := 77) rfl)
set_option maxRecDepth 20000 in
theorem t_1197 : Cond.code yX9_drop cX9_drop 5 (some .int) ∈ lw_tbl := tb_5 _ (List.mem_of_getElem? (i := 49) rfl)
set_option maxRecDepth 20000 in
theorem t_1198 : Cond.fieldLink RX9 185 "CardBowl$Town" "rank" "[I" ∈ lw_tbl := tb_1 _ (List.mem_of_getElem? (i := 62) rfl)
set_option maxRecDepth 20000 in
theorem t_1199 : Cond.methodLink RX9 231 yX6_canDrop ∈ lw_tbl := tb_5 _ (List.mem_of_getElem? (i := 50) rfl)
set_option maxRecDepth 20000 in
theorem t_1200 : Cond.instanceMethod yX6_canDrop ∈ lw_tbl := tb_5 _ (List.mem_of_getElem? (i := 51) rfl)
set_option maxRecDepth 20000 in
theorem t_1201 : Cond.selects RX6 yX6_canDrop yX6_canDrop ∈ lw_tbl := tb_5 _ (List.mem_of_getElem? (i := 52) rfl)
set_option maxRecDepth 20000 in
theorem t_1202 : Cond.code yX9_end cX9_end 2 (some .int) ∈ lw_tbl := tb_3 _ (List.mem_of_getElem? (i := 5) rfl)
set_option maxRecDepth 20000 in
theorem t_1203 : Cond.code yX9_fault cX9_fault 2 (some .int) ∈ lw_tbl := tb_3 _ (List.mem_of_getElem? (i := 179) rfl)
set_option maxRecDepth 20000 in
theorem t_1204 : Cond.fieldLink RX9 16 "CardBowl" "reader" "LCardBowl$Reader;" ∈ lw_tbl := tb_2 _ (List.mem_of_getElem? (i := 205) rfl)
set_option maxRecDepth 20000 in
theorem t_1205 : Cond.fieldLink RX9 75 "CardBowl$Reader" "fault" "I" ∈ lw_tbl := tb_1 _ (List.mem_of_getElem? (i := 163) rfl)
set_option maxRecDepth 20000 in
theorem t_1206 : Cond.fieldLink RX9 99 "CardBowl$Reader" "place" "I" ∈ lw_tbl := tb_1 _ (List.mem_of_getElem? (i := 165) rfl)
set_option maxRecDepth 20000 in
theorem t_1207 : Cond.code yX9_feed cX9_feed 6 (some .int) ∈ lw_tbl := tb_2 _ (List.mem_of_getElem? (i := 237) rfl)
set_option maxRecDepth 20000 in
theorem t_1208 : Cond.methodLink RX9 67 yX9_feedNumber ∈ lw_tbl := tb_2 _ (List.mem_of_getElem? (i := 238) rfl)
set_option maxRecDepth 20000 in
theorem t_1209 : Cond.instanceMethod yX9_feedNumber ∈ lw_tbl := tb_3 _ (List.mem_of_getElem? (i := 0) rfl)
theorem t_1210 : Cond.selects RX9 yX9_feedNumber yX9_feedNumber ∈ lw_tbl := List.mem_append_left _ (List.mem_of_getElem? (i := 0) (by decide +kernel))
set_option maxRecDepth 20000 in
theorem t_1211 : Cond.code yX9_feedNumber cX9_feedNumber 3 none ∈ lw_tbl := tb_3 _ (List.mem_of_getElem? (i := 1) rfl)
set_option maxRecDepth 20000 in
theorem t_1212 : Cond.fieldLink RX9 9 "CardBowl" "tape" "[B" ∈ lw_tbl := tb_2 _ (List.mem_of_getElem? (i := 203) rfl)
set_option maxRecDepth 20000 in
theorem t_1213 : Cond.code yX9_fewest cX9_fewest 2 (some .int) ∈ lw_tbl := tb_4 _ (List.mem_of_getElem? (i := 214) rfl)
set_option maxRecDepth 20000 in
theorem t_1214 : Cond.fieldLink RX9 40 "CardBowl" "rounds" "LCardBowl$Rounds;" ∈ lw_tbl := tb_2 _ (List.mem_of_getElem? (i := 209) rfl)
set_option maxRecDepth 20000 in
theorem t_1215 : Cond.methodLink RX9 214 yX4_fewestDays ∈ lw_tbl := tb_4 _ (List.mem_of_getElem? (i := 215) rfl)
set_option maxRecDepth 20000 in
theorem t_1216 : Cond.instanceMethod yX4_fewestDays ∈ lw_tbl := tb_4 _ (List.mem_of_getElem? (i := 216) rfl)
set_option maxRecDepth 20000 in
theorem t_1217 : Cond.selects RX4 yX4_fewestDays yX4_fewestDays ∈ lw_tbl := tb_4 _ (List.mem_of_getElem? (i := 217) rfl)
set_option maxRecDepth 20000 in
theorem t_1218 : Cond.code yX9_filledSlots cX9_filledSlots 3 (some .int) ∈ lw_tbl := tb_5 _ (List.mem_of_getElem? (i := 116) rfl)
set_option maxRecDepth 20000 in
theorem t_1219 : Cond.code yX9_first cX9_first 6 (some .int) ∈ lw_tbl := tb_4 _ (List.mem_of_getElem? (i := 107) rfl)
set_option maxRecDepth 20000 in
theorem t_1220 : Cond.methodLink RX9 182 yX1_overdueTo ∈ lw_tbl := tb_4 _ (List.mem_of_getElem? (i := 100) rfl)
set_option maxRecDepth 20000 in
theorem t_1221 : Cond.instanceMethod yX1_overdueTo ∈ lw_tbl := tb_4 _ (List.mem_of_getElem? (i := 101) rfl)
set_option maxRecDepth 20000 in
theorem t_1222 : Cond.selects RX1 yX1_overdueTo yX1_overdueTo ∈ lw_tbl := tb_4 _ (List.mem_of_getElem? (i := 102) rfl)
set_option maxRecDepth 20000 in
theorem t_1223 : Cond.code yX9_forget cX9_forget 1 none ∈ lw_tbl := tb_3 _ (List.mem_of_getElem? (i := 175) rfl)
set_option maxRecDepth 20000 in
theorem t_1224 : Cond.fieldLink RX9 330 "CardBowl$Rounds" "planned" "Z" ∈ lw_tbl := tb_2 _ (List.mem_of_getElem? (i := 78) rfl)
set_option maxRecDepth 20000 in
theorem t_1225 : Cond.fieldLink RX9 47 "CardBowl" "ways" "LCardBowl$Ways;" ∈ lw_tbl := tb_2 _ (List.mem_of_getElem? (i := 210) rfl)
set_option maxRecDepth 20000 in
theorem t_1226 : Cond.fieldLink RX9 333 "CardBowl$Ways" "sought" "Z" ∈ lw_tbl := tb_2 _ (List.mem_of_getElem? (i := 141) rfl)
set_option maxRecDepth 20000 in
theorem t_1227 : Cond.code yX9_house cX9_house 3 (some .int) ∈ lw_tbl := tb_5 _ (List.mem_of_getElem? (i := 84) rfl)
set_option maxRecDepth 20000 in
theorem t_1228 : Cond.constant RX9 248 (-2000000000) ∈ lw_tbl := tb_5 _ (List.mem_of_getElem? (i := 85) rfl)
set_option maxRecDepth 20000 in
theorem t_1229 : Cond.fieldLink RX9 249 "CardBowl$Town" "x" "[I" ∈ lw_tbl := tb_1 _ (List.mem_of_getElem? (i := 55) rfl)
set_option maxRecDepth 20000 in
theorem t_1230 : Cond.fieldLink RX9 252 "CardBowl$Town" "y" "[I" ∈ lw_tbl := tb_1 _ (List.mem_of_getElem? (i := 58) rfl)
set_option maxRecDepth 20000 in
theorem t_1231 : Cond.fieldLink RX9 255 "CardBowl$Town" "weekday" "[I" ∈ lw_tbl := tb_1 _ (List.mem_of_getElem? (i := 67) rfl)
set_option maxRecDepth 20000 in
theorem t_1232 : Cond.fieldLink RX9 258 "CardBowl$Town" "from" "[I" ∈ lw_tbl := tb_1 _ (List.mem_of_getElem? (i := 71) rfl)
set_option maxRecDepth 20000 in
theorem t_1233 : Cond.fieldLink RX9 261 "CardBowl$Town" "to" "[I" ∈ lw_tbl := tb_1 _ (List.mem_of_getElem? (i := 75) rfl)
set_option maxRecDepth 20000 in
theorem t_1234 : Cond.fieldLink RX9 264 "CardBowl$Town" "came" "[I" ∈ lw_tbl := tb_1 _ (List.mem_of_getElem? (i := 78) rfl)
set_option maxRecDepth 20000 in
theorem t_1235 : Cond.methodLink RX9 265 yX2_callsBy ∈ lw_tbl := tb_5 _ (List.mem_of_getElem? (i := 86) rfl)
set_option maxRecDepth 20000 in
theorem t_1236 : Cond.instanceMethod yX2_callsBy ∈ lw_tbl := tb_5 _ (List.mem_of_getElem? (i := 87) rfl)
set_option maxRecDepth 20000 in
theorem t_1237 : Cond.selects RX2 yX2_callsBy yX2_callsBy ∈ lw_tbl := tb_5 _ (List.mem_of_getElem? (i := 88) rfl)
set_option maxRecDepth 20000 in
theorem t_1238 : Cond.methodLink RX9 268 yX2_callsTo ∈ lw_tbl := tb_5 _ (List.mem_of_getElem? (i := 90) rfl)
set_option maxRecDepth 20000 in
theorem t_1239 : Cond.instanceMethod yX2_callsTo ∈ lw_tbl := tb_5 _ (List.mem_of_getElem? (i := 91) rfl)
set_option maxRecDepth 20000 in
theorem t_1240 : Cond.selects RX2 yX2_callsTo yX2_callsTo ∈ lw_tbl := tb_5 _ (List.mem_of_getElem? (i := 92) rfl)
set_option maxRecDepth 20000 in
theorem t_1241 : Cond.code yX9_init cX9_init 2 none ∈ lw_tbl := tb_1 _ (List.mem_of_getElem? (i := 24) rfl)
set_option maxRecDepth 20000 in
theorem t_1242 : Cond.methodLink RX9 1 objectInit ∈ lw_tbl := tb_1 _ (List.mem_of_getElem? (i := 25) rfl)
set_option maxRecDepth 20000 in
theorem t_1243 : Cond.classLink RX9 13 RX3 ∈ lw_tbl := tb_1 _ (List.mem_of_getElem? (i := 28) rfl)
set_option maxRecDepth 20000 in
theorem t_1244 : Cond.instantiable RX3 10 ∈ lw_tbl := tb_1 _ (List.mem_of_getElem? (i := 29) rfl)
set_option maxRecDepth 20000 in
theorem t_1245 : Cond.classLink RX9 20 RX6 ∈ lw_tbl := tb_1 _ (List.mem_of_getElem? (i := 193) rfl)
set_option maxRecDepth 20000 in
theorem t_1246 : Cond.instantiable RX6 8 ∈ lw_tbl := tb_1 _ (List.mem_of_getElem? (i := 194) rfl)
set_option maxRecDepth 20000 in
theorem t_1247 : Cond.classLink RX9 31 RX5 ∈ lw_tbl := tb_2 _ (List.mem_of_getElem? (i := 69) rfl)
set_option maxRecDepth 20000 in
theorem t_1248 : Cond.classLink RX9 37 RX4 ∈ lw_tbl := tb_2 _ (List.mem_of_getElem? (i := 71) rfl)
set_option maxRecDepth 20000 in
theorem t_1249 : Cond.instantiable RX4 17 ∈ lw_tbl := tb_2 _ (List.mem_of_getElem? (i := 72) rfl)
set_option maxRecDepth 20000 in
theorem t_1250 : Cond.classLink RX9 44 RX8 ∈ lw_tbl := tb_2 _ (List.mem_of_getElem? (i := 134) rfl)
set_option maxRecDepth 20000 in
theorem t_1251 : Cond.instantiable RX8 11 ∈ lw_tbl := tb_2 _ (List.mem_of_getElem? (i := 135) rfl)
set_option maxRecDepth 20000 in
theorem t_1252 : Cond.classLink RX9 51 RX1 ∈ lw_tbl := tb_2 _ (List.mem_of_getElem? (i := 177) rfl)
set_option maxRecDepth 20000 in
theorem t_1253 : Cond.instantiable RX5 4 ∈ lw_tbl := tb_2 _ (List.mem_of_getElem? (i := 179) rfl)
set_option maxRecDepth 20000 in
theorem t_1254 : Cond.code yX9_isDeed cX9_isDeed 4 (some .boolean) ∈ lw_tbl := tb_3 _ (List.mem_of_getElem? (i := 191) rfl)
set_option maxRecDepth 20000 in
theorem t_1255 : Cond.methodLink RX9 126 yX7_hasPair ∈ lw_tbl := tb_3 _ (List.mem_of_getElem? (i := 192) rfl)
set_option maxRecDepth 20000 in
theorem t_1256 : Cond.instanceMethod yX7_hasPair ∈ lw_tbl := tb_3 _ (List.mem_of_getElem? (i := 193) rfl)
set_option maxRecDepth 20000 in
theorem t_1257 : Cond.selects RX7 yX7_hasPair yX7_hasPair ∈ lw_tbl := tb_3 _ (List.mem_of_getElem? (i := 194) rfl)
set_option maxRecDepth 20000 in
theorem t_1258 : Cond.code yX9_isImage cX9_isImage 1 (some .boolean) ∈ lw_tbl := tb_5 _ (List.mem_of_getElem? (i := 100) rfl)
set_option maxRecDepth 20000 in
theorem t_1259 : Cond.code yX9_isOuting cX9_isOuting 3 (some .boolean) ∈ lw_tbl := tb_4 _ (List.mem_of_getElem? (i := 123) rfl)
set_option maxRecDepth 20000 in
theorem t_1260 : Cond.code yX9_isSlot cX9_isSlot 1 (some .boolean) ∈ lw_tbl := tb_4 _ (List.mem_of_getElem? (i := 70) rfl)
set_option maxRecDepth 20000 in
theorem t_1261 : Cond.code yX9_keep cX9_keep 3 (some .int) ∈ lw_tbl := tb_5 _ (List.mem_of_getElem? (i := 120) rfl)
set_option maxRecDepth 20000 in
theorem t_1262 : Cond.code yX9_known cX9_known 3 (some .int) ∈ lw_tbl := tb_4 _ (List.mem_of_getElem? (i := 81) rfl)
set_option maxRecDepth 20000 in
theorem t_1263 : Cond.methodLink RX9 155 yX6_knew ∈ lw_tbl := tb_4 _ (List.mem_of_getElem? (i := 82) rfl)
set_option maxRecDepth 20000 in
theorem t_1264 : Cond.code yX9_lost cX9_lost 2 (some .int) ∈ lw_tbl := tb_4 _ (List.mem_of_getElem? (i := 235) rfl)
set_option maxRecDepth 20000 in
theorem t_1265 : Cond.methodLink RX9 218 yX4_lostBits ∈ lw_tbl := tb_4 _ (List.mem_of_getElem? (i := 236) rfl)
set_option maxRecDepth 20000 in
theorem t_1266 : Cond.instanceMethod yX4_lostBits ∈ lw_tbl := tb_4 _ (List.mem_of_getElem? (i := 237) rfl)
set_option maxRecDepth 20000 in
theorem t_1267 : Cond.selects RX4 yX4_lostBits yX4_lostBits ∈ lw_tbl := tb_4 _ (List.mem_of_getElem? (i := 238) rfl)
set_option maxRecDepth 20000 in
theorem t_1268 : Cond.code yX9_may cX9_may 5 (some .int) ∈ lw_tbl := tb_4 _ (List.mem_of_getElem? (i := 204) rfl)
set_option maxRecDepth 20000 in
theorem t_1269 : Cond.methodLink RX9 191 yX9_isOuting ∈ lw_tbl := tb_4 _ (List.mem_of_getElem? (i := 120) rfl)
set_option maxRecDepth 20000 in
theorem t_1270 : Cond.instanceMethod yX9_isOuting ∈ lw_tbl := tb_4 _ (List.mem_of_getElem? (i := 122) rfl)
theorem t_1271 : Cond.selects RX9 yX9_isOuting yX9_isOuting ∈ lw_tbl := List.mem_append_left _ (List.mem_of_getElem? (i := 23) (by decide +kernel))
set_option maxRecDepth 20000 in
theorem t_1272 : Cond.methodLink RX9 210 yX4_canWalk ∈ lw_tbl := tb_4 _ (List.mem_of_getElem? (i := 205) rfl)
set_option maxRecDepth 20000 in
theorem t_1273 : Cond.instanceMethod yX4_canWalk ∈ lw_tbl := tb_4 _ (List.mem_of_getElem? (i := 206) rfl)
set_option maxRecDepth 20000 in
theorem t_1274 : Cond.selects RX4 yX4_canWalk yX4_canWalk ∈ lw_tbl := tb_4 _ (List.mem_of_getElem? (i := 207) rfl)
set_option maxRecDepth 20000 in
theorem t_1275 : Cond.code yX9_meet cX9_meet 3 (some .int) ∈ lw_tbl := tb_4 _ (List.mem_of_getElem? (i := 59) rfl)
set_option maxRecDepth 20000 in
theorem t_1276 : Cond.methodLink RX9 130 yX6_chance ∈ lw_tbl := tb_4 _ (List.mem_of_getElem? (i := 60) rfl)
set_option maxRecDepth 20000 in
theorem t_1277 : Cond.instanceMethod yX6_chance ∈ lw_tbl := tb_4 _ (List.mem_of_getElem? (i := 61) rfl)
set_option maxRecDepth 20000 in
theorem t_1278 : Cond.selects RX6 yX6_chance yX6_chance ∈ lw_tbl := tb_4 _ (List.mem_of_getElem? (i := 62) rfl)
set_option maxRecDepth 20000 in
theorem t_1279 : Cond.code yX9_over cX9_over 3 (some .int) ∈ lw_tbl := tb_4 _ (List.mem_of_getElem? (i := 200) rfl)
set_option maxRecDepth 20000 in
theorem t_1280 : Cond.methodLink RX9 194 yX4_plan ∈ lw_tbl := tb_4 _ (List.mem_of_getElem? (i := 124) rfl)
set_option maxRecDepth 20000 in
theorem t_1281 : Cond.instanceMethod yX4_plan ∈ lw_tbl := tb_4 _ (List.mem_of_getElem? (i := 125) rfl)
set_option maxRecDepth 20000 in
theorem t_1282 : Cond.selects RX4 yX4_plan yX4_plan ∈ lw_tbl := tb_4 _ (List.mem_of_getElem? (i := 126) rfl)
set_option maxRecDepth 20000 in
theorem t_1283 : Cond.fieldLink RX9 207 "CardBowl$Rounds" "bestOver" "I" ∈ lw_tbl := tb_2 _ (List.mem_of_getElem? (i := 82) rfl)
set_option maxRecDepth 20000 in
theorem t_1284 : Cond.code yX9_owes cX9_owes 4 (some .int) ∈ lw_tbl := tb_4 _ (List.mem_of_getElem? (i := 111) rfl)
set_option maxRecDepth 20000 in
theorem t_1285 : Cond.methodLink RX9 188 yX6_wouldMake ∈ lw_tbl := tb_4 _ (List.mem_of_getElem? (i := 112) rfl)
set_option maxRecDepth 20000 in
theorem t_1286 : Cond.instanceMethod yX6_wouldMake ∈ lw_tbl := tb_4 _ (List.mem_of_getElem? (i := 113) rfl)
set_option maxRecDepth 20000 in
theorem t_1287 : Cond.selects RX6 yX6_wouldMake yX6_wouldMake ∈ lw_tbl := tb_4 _ (List.mem_of_getElem? (i := 114) rfl)
set_option maxRecDepth 20000 in
theorem t_1288 : Cond.code yX9_paste cX9_paste 8 (some .int) ∈ lw_tbl := tb_5 _ (List.mem_of_getElem? (i := 161) rfl)
set_option maxRecDepth 20000 in
theorem t_1289 : Cond.fieldLink RX9 318 "CardBowl$Slot" "width" "I" ∈ lw_tbl := tb_2 _ (List.mem_of_getElem? (i := 187) rfl)
set_option maxRecDepth 20000 in
theorem t_1290 : Cond.methodLink RX9 321 yX5_hasRun ∈ lw_tbl := tb_5 _ (List.mem_of_getElem? (i := 162) rfl)
set_option maxRecDepth 20000 in
theorem t_1291 : Cond.instanceMethod yX5_hasRun ∈ lw_tbl := tb_5 _ (List.mem_of_getElem? (i := 163) rfl)
set_option maxRecDepth 20000 in
theorem t_1292 : Cond.selects RX5 yX5_hasRun yX5_hasRun ∈ lw_tbl := tb_5 _ (List.mem_of_getElem? (i := 164) rfl)
set_option maxRecDepth 20000 in
theorem t_1293 : Cond.fieldLink RX9 310 "CardBowl$Slot" "numbers" "[J" ∈ lw_tbl := tb_2 _ (List.mem_of_getElem? (i := 192) rfl)
set_option maxRecDepth 20000 in
theorem t_1294 : Cond.methodLink RX9 324 arraycopyName ∈ lw_tbl := tb_5 _ (List.mem_of_getElem? (i := 166) rfl)
set_option maxRecDepth 20000 in
theorem t_1295 : Cond.code yX9_path cX9_path 4 (some .int) ∈ lw_tbl := tb_5 _ (List.mem_of_getElem? (i := 37) rfl)
set_option maxRecDepth 20000 in
theorem t_1296 : Cond.methodLink RX9 221 yX8_seek ∈ lw_tbl := tb_5 _ (List.mem_of_getElem? (i := 8) rfl)
set_option maxRecDepth 20000 in
theorem t_1297 : Cond.instanceMethod yX8_seek ∈ lw_tbl := tb_5 _ (List.mem_of_getElem? (i := 9) rfl)
set_option maxRecDepth 20000 in
theorem t_1298 : Cond.selects RX8 yX8_seek yX8_seek ∈ lw_tbl := tb_5 _ (List.mem_of_getElem? (i := 10) rfl)
set_option maxRecDepth 20000 in
theorem t_1299 : Cond.fieldLink RX9 224 "CardBowl$Ways" "length" "I" ∈ lw_tbl := tb_2 _ (List.mem_of_getElem? (i := 143) rfl)
set_option maxRecDepth 20000 in
theorem t_1300 : Cond.fieldLink RX9 225 "CardBowl$Ways" "calls" "[I" ∈ lw_tbl := tb_2 _ (List.mem_of_getElem? (i := 145) rfl)
set_option maxRecDepth 20000 in
theorem t_1301 : Cond.code yX9_reach cX9_reach 2 (some .int) ∈ lw_tbl := tb_5 _ (List.mem_of_getElem? (i := 41) rfl)
set_option maxRecDepth 20000 in
theorem t_1302 : Cond.methodLink RX9 228 yX6_hanging ∈ lw_tbl := tb_5 _ (List.mem_of_getElem? (i := 42) rfl)
set_option maxRecDepth 20000 in
theorem t_1303 : Cond.code yX9_ring cX9_ring 2 (some .int) ∈ lw_tbl := tb_5 _ (List.mem_of_getElem? (i := 80) rfl)
set_option maxRecDepth 20000 in
theorem t_1304 : Cond.methodLink RX9 237 yX6_followCalls ∈ lw_tbl := tb_5 _ (List.mem_of_getElem? (i := 68) rfl)
set_option maxRecDepth 20000 in
theorem t_1305 : Cond.instanceMethod yX6_followCalls ∈ lw_tbl := tb_5 _ (List.mem_of_getElem? (i := 69) rfl)
set_option maxRecDepth 20000 in
theorem t_1306 : Cond.selects RX6 yX6_followCalls yX6_followCalls ∈ lw_tbl := tb_5 _ (List.mem_of_getElem? (i := 70) rfl)
set_option maxRecDepth 20000 in
theorem t_1307 : Cond.methodLink RX9 240 yX6_ringBits ∈ lw_tbl := tb_5 _ (List.mem_of_getElem? (i := 72) rfl)
set_option maxRecDepth 20000 in
theorem t_1308 : Cond.instanceMethod yX6_ringBits ∈ lw_tbl := tb_5 _ (List.mem_of_getElem? (i := 73) rfl)
set_option maxRecDepth 20000 in
theorem t_1309 : Cond.selects RX6 yX6_ringBits yX6_ringBits ∈ lw_tbl := tb_5 _ (List.mem_of_getElem? (i := 74) rfl)
set_option maxRecDepth 20000 in
theorem t_1310 : Cond.code yX9_rings cX9_rings 4 (some .int) ∈ lw_tbl := tb_5 _ (List.mem_of_getElem? (i := 67) rfl)
set_option maxRecDepth 20000 in
theorem t_1311 : Cond.methodLink RX9 243 yJ6_numberOfTrailingZeros_0f7a4 ∈ lw_tbl := tb_5 _ (List.mem_of_getElem? (i := 76) rfl)
set_option maxRecDepth 20000 in
theorem t_1312 : Cond.code yX9_round cX9_round 4 (some .int) ∈ lw_tbl := tb_4 _ (List.mem_of_getElem? (i := 196) rfl)
set_option maxRecDepth 20000 in
theorem t_1313 : Cond.fieldLink RX9 201 "CardBowl$Rounds" "length" "I" ∈ lw_tbl := tb_2 _ (List.mem_of_getElem? (i := 84) rfl)
set_option maxRecDepth 20000 in
theorem t_1314 : Cond.fieldLink RX9 204 "CardBowl$Rounds" "order" "[I" ∈ lw_tbl := tb_2 _ (List.mem_of_getElem? (i := 86) rfl)
set_option maxRecDepth 20000 in
theorem t_1315 : Cond.code yX9_row cX9_row 4 (some .int) ∈ lw_tbl := tb_5 _ (List.mem_of_getElem? (i := 142) rfl)
set_option maxRecDepth 20000 in
theorem t_1316 : Cond.methodLink RX9 306 yX5_lay ∈ lw_tbl := tb_5 _ (List.mem_of_getElem? (i := 143) rfl)
set_option maxRecDepth 20000 in
theorem t_1317 : Cond.instanceMethod yX5_lay ∈ lw_tbl := tb_5 _ (List.mem_of_getElem? (i := 144) rfl)
set_option maxRecDepth 20000 in
theorem t_1318 : Cond.selects RX5 yX5_lay yX5_lay ∈ lw_tbl := tb_5 _ (List.mem_of_getElem? (i := 145) rfl)
set_option maxRecDepth 20000 in
theorem t_1319 : Cond.code yX9_slights cX9_slights 2 (some .int) ∈ lw_tbl := tb_4 _ (List.mem_of_getElem? (i := 99) rfl)
set_option maxRecDepth 20000 in
theorem t_1320 : Cond.code yX9_soon cX9_soon 3 (some .int) ∈ lw_tbl := tb_5 _ (List.mem_of_getElem? (i := 7) rfl)
set_option maxRecDepth 20000 in
theorem t_1321 : Cond.code yX9_tie cX9_tie 3 (some .int) ∈ lw_tbl := tb_5 _ (List.mem_of_getElem? (i := 62) rfl)
set_option maxRecDepth 20000 in
theorem t_1322 : Cond.methodLink RX9 234 yX6_holdsTogether ∈ lw_tbl := tb_5 _ (List.mem_of_getElem? (i := 63) rfl)
set_option maxRecDepth 20000 in
theorem t_1323 : Cond.code yX9_town cX9_town 1 (some .int) ∈ lw_tbl := tb_3 _ (List.mem_of_getElem? (i := 9) rfl)
set_option maxRecDepth 20000 in
theorem t_1324 : Cond.methodLink RX9 71 yX3_read ∈ lw_tbl := tb_3 _ (List.mem_of_getElem? (i := 10) rfl)
set_option maxRecDepth 20000 in
theorem t_1325 : Cond.instanceMethod yX3_read ∈ lw_tbl := tb_3 _ (List.mem_of_getElem? (i := 11) rfl)
set_option maxRecDepth 20000 in
theorem t_1326 : Cond.selects RX3 yX3_read yX3_read ∈ lw_tbl := tb_3 _ (List.mem_of_getElem? (i := 12) rfl)
set_option maxRecDepth 20000 in
theorem t_1327 : Cond.fieldLink RX9 78 "CardBowl$Reader" "town" "LCardBowl$Town;" ∈ lw_tbl := tb_1 _ (List.mem_of_getElem? (i := 159) rfl)
set_option maxRecDepth 20000 in
theorem t_1328 : Cond.fieldLink RX9 82 "CardBowl$Reader" "code" "LCardBowl$Code;" ∈ lw_tbl := tb_1 _ (List.mem_of_getElem? (i := 161) rfl)
set_option maxRecDepth 20000 in
theorem t_1329 : Cond.methodLink RX9 86 yX6_begin ∈ lw_tbl := tb_3 _ (List.mem_of_getElem? (i := 150) rfl)
set_option maxRecDepth 20000 in
theorem t_1330 : Cond.instanceMethod yX6_begin ∈ lw_tbl := tb_3 _ (List.mem_of_getElem? (i := 151) rfl)
set_option maxRecDepth 20000 in
theorem t_1331 : Cond.selects RX6 yX6_begin yX6_begin ∈ lw_tbl := tb_3 _ (List.mem_of_getElem? (i := 152) rfl)
set_option maxRecDepth 20000 in
theorem t_1332 : Cond.code yX9_worth cX9_worth 3 (some .int) ∈ lw_tbl := tb_4 _ (List.mem_of_getElem? (i := 119) rfl)
set_option maxRecDepth 20000 in
theorem t_1333 : Cond.fieldLink RX9 198 "CardBowl$Rounds" "bestWorth" "I" ∈ lw_tbl := tb_2 _ (List.mem_of_getElem? (i := 80) rfl)
set_option maxRecDepth 20000 in
theorem t_1334 : Cond.code yX9_write cX9_write 6 (some .int) ∈ lw_tbl := tb_5 _ (List.mem_of_getElem? (i := 153) rfl)
set_option maxRecDepth 20000 in
theorem t_1335 : Cond.methodLink RX9 314 yX5_cut ∈ lw_tbl := tb_5 _ (List.mem_of_getElem? (i := 154) rfl)
set_option maxRecDepth 20000 in
theorem t_1336 : Cond.instanceMethod yX5_cut ∈ lw_tbl := tb_5 _ (List.mem_of_getElem? (i := 155) rfl)
set_option maxRecDepth 20000 in
theorem t_1337 : Cond.selects RX5 yX5_cut yX5_cut ∈ lw_tbl := tb_5 _ (List.mem_of_getElem? (i := 156) rfl)
set_option maxRecDepth 20000 in
theorem t_1338 : Cond.instanceMethod yX0_init ∈ lw_tbl := tb_1 _ (List.mem_of_getElem? (i := 114) rfl)
set_option maxRecDepth 20000 in
theorem t_1339 : Cond.instanceMethod yX1_init ∈ lw_tbl := tb_1 _ (List.mem_of_getElem? (i := 206) rfl)
set_option maxRecDepth 20000 in
theorem t_1340 : Cond.instanceMethod yX2_init ∈ lw_tbl := tb_2 _ (List.mem_of_getElem? (i := 6) rfl)
set_option maxRecDepth 20000 in
theorem t_1341 : Cond.instanceMethod yX3_init ∈ lw_tbl := tb_1 _ (List.mem_of_getElem? (i := 31) rfl)
set_option maxRecDepth 20000 in
theorem t_1342 : Cond.instanceMethod yX4_init ∈ lw_tbl := tb_2 _ (List.mem_of_getElem? (i := 74) rfl)
set_option maxRecDepth 20000 in
theorem t_1343 : Cond.instanceMethod yX5_init ∈ lw_tbl := tb_2 _ (List.mem_of_getElem? (i := 181) rfl)
set_option maxRecDepth 20000 in
theorem t_1344 : Cond.instanceMethod yX6_init ∈ lw_tbl := tb_1 _ (List.mem_of_getElem? (i := 196) rfl)
set_option maxRecDepth 20000 in
theorem t_1345 : Cond.instanceMethod yX7_init ∈ lw_tbl := tb_1 _ (List.mem_of_getElem? (i := 37) rfl)
set_option maxRecDepth 20000 in
theorem t_1346 : Cond.instanceMethod yX8_init ∈ lw_tbl := tb_2 _ (List.mem_of_getElem? (i := 137) rfl)
theorem tA_0 : ∀ w ∈ wA_0, w ∈ lw_tbl := List.forall_mem_cons.mpr ⟨t_0, List.forall_mem_cons.mpr ⟨t_1, List.forall_mem_cons.mpr ⟨t_2, List.forall_mem_cons.mpr ⟨t_3, List.forall_mem_cons.mpr ⟨t_4, List.forall_mem_cons.mpr ⟨t_5, List.forall_mem_cons.mpr ⟨t_6, List.forall_mem_cons.mpr ⟨t_7, List.forall_mem_cons.mpr ⟨t_8, List.forall_mem_cons.mpr ⟨t_9, List.forall_mem_cons.mpr ⟨t_10, List.forall_mem_cons.mpr ⟨t_11, List.forall_mem_cons.mpr ⟨t_12, List.forall_mem_cons.mpr ⟨t_13, List.forall_mem_cons.mpr ⟨t_14, List.forall_mem_cons.mpr ⟨t_15, List.forall_mem_cons.mpr ⟨t_16, List.forall_mem_cons.mpr ⟨t_17, List.forall_mem_cons.mpr ⟨t_18, List.forall_mem_cons.mpr ⟨t_19, List.forall_mem_cons.mpr ⟨t_20, List.forall_mem_cons.mpr ⟨t_21, List.forall_mem_cons.mpr ⟨t_22, List.forall_mem_cons.mpr ⟨t_23, fun _ h => absurd h List.not_mem_nil⟩⟩⟩⟩⟩⟩⟩⟩⟩⟩⟩⟩⟩⟩⟩⟩⟩⟩⟩⟩⟩⟩⟩⟩
theorem tA_1 : ∀ w ∈ wA_1, w ∈ lw_tbl := List.forall_mem_cons.mpr ⟨t_24, List.forall_mem_cons.mpr ⟨t_25, List.forall_mem_cons.mpr ⟨t_26, List.forall_mem_cons.mpr ⟨t_27, List.forall_mem_cons.mpr ⟨t_28, List.forall_mem_cons.mpr ⟨t_29, List.forall_mem_cons.mpr ⟨t_30, List.forall_mem_cons.mpr ⟨t_31, List.forall_mem_cons.mpr ⟨t_32, List.forall_mem_cons.mpr ⟨t_33, List.forall_mem_cons.mpr ⟨t_34, List.forall_mem_cons.mpr ⟨t_35, List.forall_mem_cons.mpr ⟨t_36, List.forall_mem_cons.mpr ⟨t_37, List.forall_mem_cons.mpr ⟨t_38, List.forall_mem_cons.mpr ⟨t_39, List.forall_mem_cons.mpr ⟨t_40, List.forall_mem_cons.mpr ⟨t_41, List.forall_mem_cons.mpr ⟨t_42, List.forall_mem_cons.mpr ⟨t_43, List.forall_mem_cons.mpr ⟨t_44, List.forall_mem_cons.mpr ⟨t_45, List.forall_mem_cons.mpr ⟨t_46, List.forall_mem_cons.mpr ⟨t_47, fun _ h => absurd h List.not_mem_nil⟩⟩⟩⟩⟩⟩⟩⟩⟩⟩⟩⟩⟩⟩⟩⟩⟩⟩⟩⟩⟩⟩⟩⟩
theorem tA_2 : ∀ w ∈ wA_2, w ∈ lw_tbl := List.forall_mem_cons.mpr ⟨t_48, List.forall_mem_cons.mpr ⟨t_49, List.forall_mem_cons.mpr ⟨t_50, List.forall_mem_cons.mpr ⟨t_51, List.forall_mem_cons.mpr ⟨t_52, List.forall_mem_cons.mpr ⟨t_53, List.forall_mem_cons.mpr ⟨t_54, List.forall_mem_cons.mpr ⟨t_55, List.forall_mem_cons.mpr ⟨t_56, List.forall_mem_cons.mpr ⟨t_57, List.forall_mem_cons.mpr ⟨t_58, List.forall_mem_cons.mpr ⟨t_59, List.forall_mem_cons.mpr ⟨t_60, List.forall_mem_cons.mpr ⟨t_61, List.forall_mem_cons.mpr ⟨t_62, List.forall_mem_cons.mpr ⟨t_63, List.forall_mem_cons.mpr ⟨t_64, List.forall_mem_cons.mpr ⟨t_65, List.forall_mem_cons.mpr ⟨t_66, List.forall_mem_cons.mpr ⟨t_67, List.forall_mem_cons.mpr ⟨t_68, List.forall_mem_cons.mpr ⟨t_69, List.forall_mem_cons.mpr ⟨t_70, List.forall_mem_cons.mpr ⟨t_71, fun _ h => absurd h List.not_mem_nil⟩⟩⟩⟩⟩⟩⟩⟩⟩⟩⟩⟩⟩⟩⟩⟩⟩⟩⟩⟩⟩⟩⟩⟩
theorem tA_3 : ∀ w ∈ wA_3, w ∈ lw_tbl := List.forall_mem_cons.mpr ⟨t_72, List.forall_mem_cons.mpr ⟨t_73, List.forall_mem_cons.mpr ⟨t_74, List.forall_mem_cons.mpr ⟨t_75, List.forall_mem_cons.mpr ⟨t_76, List.forall_mem_cons.mpr ⟨t_77, List.forall_mem_cons.mpr ⟨t_78, List.forall_mem_cons.mpr ⟨t_79, List.forall_mem_cons.mpr ⟨t_80, List.forall_mem_cons.mpr ⟨t_81, List.forall_mem_cons.mpr ⟨t_82, List.forall_mem_cons.mpr ⟨t_83, List.forall_mem_cons.mpr ⟨t_84, List.forall_mem_cons.mpr ⟨t_85, List.forall_mem_cons.mpr ⟨t_86, List.forall_mem_cons.mpr ⟨t_87, List.forall_mem_cons.mpr ⟨t_88, List.forall_mem_cons.mpr ⟨t_89, List.forall_mem_cons.mpr ⟨t_90, List.forall_mem_cons.mpr ⟨t_91, List.forall_mem_cons.mpr ⟨t_92, List.forall_mem_cons.mpr ⟨t_93, List.forall_mem_cons.mpr ⟨t_94, List.forall_mem_cons.mpr ⟨t_95, fun _ h => absurd h List.not_mem_nil⟩⟩⟩⟩⟩⟩⟩⟩⟩⟩⟩⟩⟩⟩⟩⟩⟩⟩⟩⟩⟩⟩⟩⟩
theorem tA_4 : ∀ w ∈ wA_4, w ∈ lw_tbl := List.forall_mem_cons.mpr ⟨t_96, List.forall_mem_cons.mpr ⟨t_97, List.forall_mem_cons.mpr ⟨t_98, List.forall_mem_cons.mpr ⟨t_99, List.forall_mem_cons.mpr ⟨t_100, List.forall_mem_cons.mpr ⟨t_101, List.forall_mem_cons.mpr ⟨t_102, List.forall_mem_cons.mpr ⟨t_103, List.forall_mem_cons.mpr ⟨t_104, List.forall_mem_cons.mpr ⟨t_105, List.forall_mem_cons.mpr ⟨t_106, List.forall_mem_cons.mpr ⟨t_107, List.forall_mem_cons.mpr ⟨t_108, List.forall_mem_cons.mpr ⟨t_109, List.forall_mem_cons.mpr ⟨t_110, List.forall_mem_cons.mpr ⟨t_111, List.forall_mem_cons.mpr ⟨t_112, List.forall_mem_cons.mpr ⟨t_113, List.forall_mem_cons.mpr ⟨t_114, List.forall_mem_cons.mpr ⟨t_115, List.forall_mem_cons.mpr ⟨t_116, List.forall_mem_cons.mpr ⟨t_117, List.forall_mem_cons.mpr ⟨t_118, List.forall_mem_cons.mpr ⟨t_119, fun _ h => absurd h List.not_mem_nil⟩⟩⟩⟩⟩⟩⟩⟩⟩⟩⟩⟩⟩⟩⟩⟩⟩⟩⟩⟩⟩⟩⟩⟩
theorem tA_5 : ∀ w ∈ wA_5, w ∈ lw_tbl := List.forall_mem_cons.mpr ⟨t_120, List.forall_mem_cons.mpr ⟨t_121, List.forall_mem_cons.mpr ⟨t_122, List.forall_mem_cons.mpr ⟨t_123, List.forall_mem_cons.mpr ⟨t_124, List.forall_mem_cons.mpr ⟨t_125, List.forall_mem_cons.mpr ⟨t_126, List.forall_mem_cons.mpr ⟨t_127, List.forall_mem_cons.mpr ⟨t_128, List.forall_mem_cons.mpr ⟨t_129, List.forall_mem_cons.mpr ⟨t_130, List.forall_mem_cons.mpr ⟨t_131, List.forall_mem_cons.mpr ⟨t_132, List.forall_mem_cons.mpr ⟨t_133, List.forall_mem_cons.mpr ⟨t_134, List.forall_mem_cons.mpr ⟨t_135, List.forall_mem_cons.mpr ⟨t_136, List.forall_mem_cons.mpr ⟨t_137, List.forall_mem_cons.mpr ⟨t_138, List.forall_mem_cons.mpr ⟨t_139, List.forall_mem_cons.mpr ⟨t_140, List.forall_mem_cons.mpr ⟨t_141, List.forall_mem_cons.mpr ⟨t_142, List.forall_mem_cons.mpr ⟨t_143, fun _ h => absurd h List.not_mem_nil⟩⟩⟩⟩⟩⟩⟩⟩⟩⟩⟩⟩⟩⟩⟩⟩⟩⟩⟩⟩⟩⟩⟩⟩
theorem tA_6 : ∀ w ∈ wA_6, w ∈ lw_tbl := List.forall_mem_cons.mpr ⟨t_144, List.forall_mem_cons.mpr ⟨t_145, List.forall_mem_cons.mpr ⟨t_146, List.forall_mem_cons.mpr ⟨t_147, List.forall_mem_cons.mpr ⟨t_148, List.forall_mem_cons.mpr ⟨t_149, List.forall_mem_cons.mpr ⟨t_150, List.forall_mem_cons.mpr ⟨t_151, List.forall_mem_cons.mpr ⟨t_152, List.forall_mem_cons.mpr ⟨t_153, List.forall_mem_cons.mpr ⟨t_154, List.forall_mem_cons.mpr ⟨t_155, List.forall_mem_cons.mpr ⟨t_156, List.forall_mem_cons.mpr ⟨t_157, List.forall_mem_cons.mpr ⟨t_158, List.forall_mem_cons.mpr ⟨t_159, List.forall_mem_cons.mpr ⟨t_160, List.forall_mem_cons.mpr ⟨t_161, List.forall_mem_cons.mpr ⟨t_162, List.forall_mem_cons.mpr ⟨t_163, List.forall_mem_cons.mpr ⟨t_164, List.forall_mem_cons.mpr ⟨t_165, List.forall_mem_cons.mpr ⟨t_166, List.forall_mem_cons.mpr ⟨t_167, fun _ h => absurd h List.not_mem_nil⟩⟩⟩⟩⟩⟩⟩⟩⟩⟩⟩⟩⟩⟩⟩⟩⟩⟩⟩⟩⟩⟩⟩⟩
theorem tA_7 : ∀ w ∈ wA_7, w ∈ lw_tbl := List.forall_mem_cons.mpr ⟨t_168, List.forall_mem_cons.mpr ⟨t_169, List.forall_mem_cons.mpr ⟨t_170, List.forall_mem_cons.mpr ⟨t_171, List.forall_mem_cons.mpr ⟨t_172, List.forall_mem_cons.mpr ⟨t_173, List.forall_mem_cons.mpr ⟨t_174, List.forall_mem_cons.mpr ⟨t_175, List.forall_mem_cons.mpr ⟨t_176, List.forall_mem_cons.mpr ⟨t_177, List.forall_mem_cons.mpr ⟨t_178, List.forall_mem_cons.mpr ⟨t_179, List.forall_mem_cons.mpr ⟨t_180, List.forall_mem_cons.mpr ⟨t_181, List.forall_mem_cons.mpr ⟨t_182, List.forall_mem_cons.mpr ⟨t_183, List.forall_mem_cons.mpr ⟨t_184, List.forall_mem_cons.mpr ⟨t_185, List.forall_mem_cons.mpr ⟨t_186, List.forall_mem_cons.mpr ⟨t_187, List.forall_mem_cons.mpr ⟨t_188, List.forall_mem_cons.mpr ⟨t_189, List.forall_mem_cons.mpr ⟨t_190, List.forall_mem_cons.mpr ⟨t_191, fun _ h => absurd h List.not_mem_nil⟩⟩⟩⟩⟩⟩⟩⟩⟩⟩⟩⟩⟩⟩⟩⟩⟩⟩⟩⟩⟩⟩⟩⟩
theorem tA_8 : ∀ w ∈ wA_8, w ∈ lw_tbl := List.forall_mem_cons.mpr ⟨t_192, List.forall_mem_cons.mpr ⟨t_193, List.forall_mem_cons.mpr ⟨t_194, List.forall_mem_cons.mpr ⟨t_195, List.forall_mem_cons.mpr ⟨t_196, List.forall_mem_cons.mpr ⟨t_197, List.forall_mem_cons.mpr ⟨t_198, List.forall_mem_cons.mpr ⟨t_199, List.forall_mem_cons.mpr ⟨t_200, List.forall_mem_cons.mpr ⟨t_201, List.forall_mem_cons.mpr ⟨t_202, List.forall_mem_cons.mpr ⟨t_203, List.forall_mem_cons.mpr ⟨t_204, List.forall_mem_cons.mpr ⟨t_205, List.forall_mem_cons.mpr ⟨t_206, List.forall_mem_cons.mpr ⟨t_207, List.forall_mem_cons.mpr ⟨t_208, List.forall_mem_cons.mpr ⟨t_209, List.forall_mem_cons.mpr ⟨t_210, List.forall_mem_cons.mpr ⟨t_211, List.forall_mem_cons.mpr ⟨t_212, List.forall_mem_cons.mpr ⟨t_213, List.forall_mem_cons.mpr ⟨t_214, List.forall_mem_cons.mpr ⟨t_215, fun _ h => absurd h List.not_mem_nil⟩⟩⟩⟩⟩⟩⟩⟩⟩⟩⟩⟩⟩⟩⟩⟩⟩⟩⟩⟩⟩⟩⟩⟩
theorem tA_9 : ∀ w ∈ wA_9, w ∈ lw_tbl := List.forall_mem_cons.mpr ⟨t_216, List.forall_mem_cons.mpr ⟨t_217, List.forall_mem_cons.mpr ⟨t_218, List.forall_mem_cons.mpr ⟨t_219, List.forall_mem_cons.mpr ⟨t_220, List.forall_mem_cons.mpr ⟨t_221, List.forall_mem_cons.mpr ⟨t_222, List.forall_mem_cons.mpr ⟨t_223, List.forall_mem_cons.mpr ⟨t_224, List.forall_mem_cons.mpr ⟨t_225, List.forall_mem_cons.mpr ⟨t_226, List.forall_mem_cons.mpr ⟨t_227, List.forall_mem_cons.mpr ⟨t_228, List.forall_mem_cons.mpr ⟨t_229, List.forall_mem_cons.mpr ⟨t_230, List.forall_mem_cons.mpr ⟨t_231, List.forall_mem_cons.mpr ⟨t_232, List.forall_mem_cons.mpr ⟨t_233, List.forall_mem_cons.mpr ⟨t_234, List.forall_mem_cons.mpr ⟨t_235, List.forall_mem_cons.mpr ⟨t_236, List.forall_mem_cons.mpr ⟨t_237, List.forall_mem_cons.mpr ⟨t_238, List.forall_mem_cons.mpr ⟨t_239, fun _ h => absurd h List.not_mem_nil⟩⟩⟩⟩⟩⟩⟩⟩⟩⟩⟩⟩⟩⟩⟩⟩⟩⟩⟩⟩⟩⟩⟩⟩
theorem tA_10 : ∀ w ∈ wA_10, w ∈ lw_tbl := List.forall_mem_cons.mpr ⟨t_240, List.forall_mem_cons.mpr ⟨t_241, List.forall_mem_cons.mpr ⟨t_242, List.forall_mem_cons.mpr ⟨t_243, List.forall_mem_cons.mpr ⟨t_244, List.forall_mem_cons.mpr ⟨t_245, List.forall_mem_cons.mpr ⟨t_246, List.forall_mem_cons.mpr ⟨t_247, List.forall_mem_cons.mpr ⟨t_248, List.forall_mem_cons.mpr ⟨t_249, List.forall_mem_cons.mpr ⟨t_250, List.forall_mem_cons.mpr ⟨t_251, List.forall_mem_cons.mpr ⟨t_252, List.forall_mem_cons.mpr ⟨t_253, List.forall_mem_cons.mpr ⟨t_254, List.forall_mem_cons.mpr ⟨t_255, List.forall_mem_cons.mpr ⟨t_256, List.forall_mem_cons.mpr ⟨t_257, List.forall_mem_cons.mpr ⟨t_258, List.forall_mem_cons.mpr ⟨t_259, List.forall_mem_cons.mpr ⟨t_260, List.forall_mem_cons.mpr ⟨t_261, List.forall_mem_cons.mpr ⟨t_262, List.forall_mem_cons.mpr ⟨t_263, fun _ h => absurd h List.not_mem_nil⟩⟩⟩⟩⟩⟩⟩⟩⟩⟩⟩⟩⟩⟩⟩⟩⟩⟩⟩⟩⟩⟩⟩⟩
theorem tA_11 : ∀ w ∈ wA_11, w ∈ lw_tbl := List.forall_mem_cons.mpr ⟨t_264, List.forall_mem_cons.mpr ⟨t_265, List.forall_mem_cons.mpr ⟨t_266, List.forall_mem_cons.mpr ⟨t_267, List.forall_mem_cons.mpr ⟨t_268, List.forall_mem_cons.mpr ⟨t_269, List.forall_mem_cons.mpr ⟨t_270, List.forall_mem_cons.mpr ⟨t_271, List.forall_mem_cons.mpr ⟨t_272, List.forall_mem_cons.mpr ⟨t_273, List.forall_mem_cons.mpr ⟨t_274, List.forall_mem_cons.mpr ⟨t_275, List.forall_mem_cons.mpr ⟨t_276, List.forall_mem_cons.mpr ⟨t_277, List.forall_mem_cons.mpr ⟨t_278, List.forall_mem_cons.mpr ⟨t_279, List.forall_mem_cons.mpr ⟨t_280, List.forall_mem_cons.mpr ⟨t_281, List.forall_mem_cons.mpr ⟨t_282, List.forall_mem_cons.mpr ⟨t_283, List.forall_mem_cons.mpr ⟨t_284, List.forall_mem_cons.mpr ⟨t_285, List.forall_mem_cons.mpr ⟨t_286, List.forall_mem_cons.mpr ⟨t_287, fun _ h => absurd h List.not_mem_nil⟩⟩⟩⟩⟩⟩⟩⟩⟩⟩⟩⟩⟩⟩⟩⟩⟩⟩⟩⟩⟩⟩⟩⟩
theorem tA_12 : ∀ w ∈ wA_12, w ∈ lw_tbl := List.forall_mem_cons.mpr ⟨t_288, List.forall_mem_cons.mpr ⟨t_289, List.forall_mem_cons.mpr ⟨t_290, List.forall_mem_cons.mpr ⟨t_291, List.forall_mem_cons.mpr ⟨t_292, List.forall_mem_cons.mpr ⟨t_293, List.forall_mem_cons.mpr ⟨t_294, List.forall_mem_cons.mpr ⟨t_295, List.forall_mem_cons.mpr ⟨t_296, List.forall_mem_cons.mpr ⟨t_297, List.forall_mem_cons.mpr ⟨t_298, List.forall_mem_cons.mpr ⟨t_299, List.forall_mem_cons.mpr ⟨t_300, List.forall_mem_cons.mpr ⟨t_301, List.forall_mem_cons.mpr ⟨t_302, List.forall_mem_cons.mpr ⟨t_303, List.forall_mem_cons.mpr ⟨t_304, List.forall_mem_cons.mpr ⟨t_305, List.forall_mem_cons.mpr ⟨t_306, List.forall_mem_cons.mpr ⟨t_307, List.forall_mem_cons.mpr ⟨t_308, List.forall_mem_cons.mpr ⟨t_309, List.forall_mem_cons.mpr ⟨t_310, List.forall_mem_cons.mpr ⟨t_311, fun _ h => absurd h List.not_mem_nil⟩⟩⟩⟩⟩⟩⟩⟩⟩⟩⟩⟩⟩⟩⟩⟩⟩⟩⟩⟩⟩⟩⟩⟩
theorem tA_13 : ∀ w ∈ wA_13, w ∈ lw_tbl := List.forall_mem_cons.mpr ⟨t_312, List.forall_mem_cons.mpr ⟨t_313, List.forall_mem_cons.mpr ⟨t_314, List.forall_mem_cons.mpr ⟨t_315, List.forall_mem_cons.mpr ⟨t_316, List.forall_mem_cons.mpr ⟨t_317, List.forall_mem_cons.mpr ⟨t_318, List.forall_mem_cons.mpr ⟨t_319, List.forall_mem_cons.mpr ⟨t_320, List.forall_mem_cons.mpr ⟨t_321, List.forall_mem_cons.mpr ⟨t_322, List.forall_mem_cons.mpr ⟨t_323, List.forall_mem_cons.mpr ⟨t_324, List.forall_mem_cons.mpr ⟨t_325, List.forall_mem_cons.mpr ⟨t_326, List.forall_mem_cons.mpr ⟨t_327, List.forall_mem_cons.mpr ⟨t_328, List.forall_mem_cons.mpr ⟨t_329, List.forall_mem_cons.mpr ⟨t_330, List.forall_mem_cons.mpr ⟨t_331, List.forall_mem_cons.mpr ⟨t_332, List.forall_mem_cons.mpr ⟨t_333, List.forall_mem_cons.mpr ⟨t_334, List.forall_mem_cons.mpr ⟨t_335, fun _ h => absurd h List.not_mem_nil⟩⟩⟩⟩⟩⟩⟩⟩⟩⟩⟩⟩⟩⟩⟩⟩⟩⟩⟩⟩⟩⟩⟩⟩
theorem tA_14 : ∀ w ∈ wA_14, w ∈ lw_tbl := List.forall_mem_cons.mpr ⟨t_336, List.forall_mem_cons.mpr ⟨t_337, List.forall_mem_cons.mpr ⟨t_338, List.forall_mem_cons.mpr ⟨t_339, List.forall_mem_cons.mpr ⟨t_340, List.forall_mem_cons.mpr ⟨t_341, List.forall_mem_cons.mpr ⟨t_342, List.forall_mem_cons.mpr ⟨t_343, List.forall_mem_cons.mpr ⟨t_344, List.forall_mem_cons.mpr ⟨t_345, List.forall_mem_cons.mpr ⟨t_346, List.forall_mem_cons.mpr ⟨t_347, List.forall_mem_cons.mpr ⟨t_348, List.forall_mem_cons.mpr ⟨t_349, List.forall_mem_cons.mpr ⟨t_350, List.forall_mem_cons.mpr ⟨t_351, List.forall_mem_cons.mpr ⟨t_352, List.forall_mem_cons.mpr ⟨t_353, List.forall_mem_cons.mpr ⟨t_354, List.forall_mem_cons.mpr ⟨t_355, List.forall_mem_cons.mpr ⟨t_356, List.forall_mem_cons.mpr ⟨t_357, List.forall_mem_cons.mpr ⟨t_358, List.forall_mem_cons.mpr ⟨t_359, fun _ h => absurd h List.not_mem_nil⟩⟩⟩⟩⟩⟩⟩⟩⟩⟩⟩⟩⟩⟩⟩⟩⟩⟩⟩⟩⟩⟩⟩⟩
theorem tA_15 : ∀ w ∈ wA_15, w ∈ lw_tbl := List.forall_mem_cons.mpr ⟨t_360, List.forall_mem_cons.mpr ⟨t_361, List.forall_mem_cons.mpr ⟨t_362, List.forall_mem_cons.mpr ⟨t_363, List.forall_mem_cons.mpr ⟨t_364, List.forall_mem_cons.mpr ⟨t_365, List.forall_mem_cons.mpr ⟨t_366, List.forall_mem_cons.mpr ⟨t_367, List.forall_mem_cons.mpr ⟨t_368, List.forall_mem_cons.mpr ⟨t_369, List.forall_mem_cons.mpr ⟨t_370, List.forall_mem_cons.mpr ⟨t_371, List.forall_mem_cons.mpr ⟨t_372, List.forall_mem_cons.mpr ⟨t_373, List.forall_mem_cons.mpr ⟨t_374, List.forall_mem_cons.mpr ⟨t_375, List.forall_mem_cons.mpr ⟨t_376, List.forall_mem_cons.mpr ⟨t_377, List.forall_mem_cons.mpr ⟨t_378, List.forall_mem_cons.mpr ⟨t_379, List.forall_mem_cons.mpr ⟨t_380, List.forall_mem_cons.mpr ⟨t_381, List.forall_mem_cons.mpr ⟨t_382, List.forall_mem_cons.mpr ⟨t_383, fun _ h => absurd h List.not_mem_nil⟩⟩⟩⟩⟩⟩⟩⟩⟩⟩⟩⟩⟩⟩⟩⟩⟩⟩⟩⟩⟩⟩⟩⟩
theorem tA_16 : ∀ w ∈ wA_16, w ∈ lw_tbl := List.forall_mem_cons.mpr ⟨t_384, List.forall_mem_cons.mpr ⟨t_385, List.forall_mem_cons.mpr ⟨t_386, List.forall_mem_cons.mpr ⟨t_387, List.forall_mem_cons.mpr ⟨t_388, List.forall_mem_cons.mpr ⟨t_389, List.forall_mem_cons.mpr ⟨t_390, List.forall_mem_cons.mpr ⟨t_391, List.forall_mem_cons.mpr ⟨t_392, List.forall_mem_cons.mpr ⟨t_393, List.forall_mem_cons.mpr ⟨t_394, List.forall_mem_cons.mpr ⟨t_395, List.forall_mem_cons.mpr ⟨t_396, List.forall_mem_cons.mpr ⟨t_397, List.forall_mem_cons.mpr ⟨t_398, List.forall_mem_cons.mpr ⟨t_399, List.forall_mem_cons.mpr ⟨t_400, List.forall_mem_cons.mpr ⟨t_401, List.forall_mem_cons.mpr ⟨t_402, List.forall_mem_cons.mpr ⟨t_403, List.forall_mem_cons.mpr ⟨t_404, List.forall_mem_cons.mpr ⟨t_405, List.forall_mem_cons.mpr ⟨t_406, List.forall_mem_cons.mpr ⟨t_407, fun _ h => absurd h List.not_mem_nil⟩⟩⟩⟩⟩⟩⟩⟩⟩⟩⟩⟩⟩⟩⟩⟩⟩⟩⟩⟩⟩⟩⟩⟩
theorem tA_17 : ∀ w ∈ wA_17, w ∈ lw_tbl := List.forall_mem_cons.mpr ⟨t_408, List.forall_mem_cons.mpr ⟨t_409, List.forall_mem_cons.mpr ⟨t_410, List.forall_mem_cons.mpr ⟨t_411, List.forall_mem_cons.mpr ⟨t_412, List.forall_mem_cons.mpr ⟨t_413, List.forall_mem_cons.mpr ⟨t_414, List.forall_mem_cons.mpr ⟨t_415, List.forall_mem_cons.mpr ⟨t_416, List.forall_mem_cons.mpr ⟨t_417, List.forall_mem_cons.mpr ⟨t_418, List.forall_mem_cons.mpr ⟨t_419, List.forall_mem_cons.mpr ⟨t_420, List.forall_mem_cons.mpr ⟨t_421, List.forall_mem_cons.mpr ⟨t_422, List.forall_mem_cons.mpr ⟨t_423, List.forall_mem_cons.mpr ⟨t_424, List.forall_mem_cons.mpr ⟨t_425, List.forall_mem_cons.mpr ⟨t_426, List.forall_mem_cons.mpr ⟨t_427, List.forall_mem_cons.mpr ⟨t_428, List.forall_mem_cons.mpr ⟨t_429, List.forall_mem_cons.mpr ⟨t_430, List.forall_mem_cons.mpr ⟨t_431, fun _ h => absurd h List.not_mem_nil⟩⟩⟩⟩⟩⟩⟩⟩⟩⟩⟩⟩⟩⟩⟩⟩⟩⟩⟩⟩⟩⟩⟩⟩
theorem tA_18 : ∀ w ∈ wA_18, w ∈ lw_tbl := List.forall_mem_cons.mpr ⟨t_432, List.forall_mem_cons.mpr ⟨t_433, List.forall_mem_cons.mpr ⟨t_434, List.forall_mem_cons.mpr ⟨t_435, List.forall_mem_cons.mpr ⟨t_436, List.forall_mem_cons.mpr ⟨t_437, List.forall_mem_cons.mpr ⟨t_438, List.forall_mem_cons.mpr ⟨t_439, List.forall_mem_cons.mpr ⟨t_440, List.forall_mem_cons.mpr ⟨t_441, List.forall_mem_cons.mpr ⟨t_442, List.forall_mem_cons.mpr ⟨t_443, List.forall_mem_cons.mpr ⟨t_444, List.forall_mem_cons.mpr ⟨t_445, List.forall_mem_cons.mpr ⟨t_446, List.forall_mem_cons.mpr ⟨t_447, List.forall_mem_cons.mpr ⟨t_448, List.forall_mem_cons.mpr ⟨t_449, List.forall_mem_cons.mpr ⟨t_450, List.forall_mem_cons.mpr ⟨t_451, List.forall_mem_cons.mpr ⟨t_452, List.forall_mem_cons.mpr ⟨t_453, List.forall_mem_cons.mpr ⟨t_454, List.forall_mem_cons.mpr ⟨t_455, fun _ h => absurd h List.not_mem_nil⟩⟩⟩⟩⟩⟩⟩⟩⟩⟩⟩⟩⟩⟩⟩⟩⟩⟩⟩⟩⟩⟩⟩⟩
theorem tA_19 : ∀ w ∈ wA_19, w ∈ lw_tbl := List.forall_mem_cons.mpr ⟨t_456, List.forall_mem_cons.mpr ⟨t_457, List.forall_mem_cons.mpr ⟨t_458, List.forall_mem_cons.mpr ⟨t_459, List.forall_mem_cons.mpr ⟨t_460, List.forall_mem_cons.mpr ⟨t_461, List.forall_mem_cons.mpr ⟨t_462, List.forall_mem_cons.mpr ⟨t_463, List.forall_mem_cons.mpr ⟨t_464, List.forall_mem_cons.mpr ⟨t_465, List.forall_mem_cons.mpr ⟨t_466, List.forall_mem_cons.mpr ⟨t_467, List.forall_mem_cons.mpr ⟨t_468, List.forall_mem_cons.mpr ⟨t_469, List.forall_mem_cons.mpr ⟨t_470, List.forall_mem_cons.mpr ⟨t_471, List.forall_mem_cons.mpr ⟨t_472, List.forall_mem_cons.mpr ⟨t_473, List.forall_mem_cons.mpr ⟨t_474, List.forall_mem_cons.mpr ⟨t_475, List.forall_mem_cons.mpr ⟨t_476, List.forall_mem_cons.mpr ⟨t_477, List.forall_mem_cons.mpr ⟨t_478, List.forall_mem_cons.mpr ⟨t_479, fun _ h => absurd h List.not_mem_nil⟩⟩⟩⟩⟩⟩⟩⟩⟩⟩⟩⟩⟩⟩⟩⟩⟩⟩⟩⟩⟩⟩⟩⟩
theorem tA_20 : ∀ w ∈ wA_20, w ∈ lw_tbl := List.forall_mem_cons.mpr ⟨t_480, List.forall_mem_cons.mpr ⟨t_481, List.forall_mem_cons.mpr ⟨t_482, List.forall_mem_cons.mpr ⟨t_483, List.forall_mem_cons.mpr ⟨t_484, List.forall_mem_cons.mpr ⟨t_485, List.forall_mem_cons.mpr ⟨t_486, List.forall_mem_cons.mpr ⟨t_487, List.forall_mem_cons.mpr ⟨t_488, List.forall_mem_cons.mpr ⟨t_489, List.forall_mem_cons.mpr ⟨t_490, List.forall_mem_cons.mpr ⟨t_491, List.forall_mem_cons.mpr ⟨t_492, List.forall_mem_cons.mpr ⟨t_493, List.forall_mem_cons.mpr ⟨t_494, List.forall_mem_cons.mpr ⟨t_495, List.forall_mem_cons.mpr ⟨t_496, List.forall_mem_cons.mpr ⟨t_497, List.forall_mem_cons.mpr ⟨t_498, List.forall_mem_cons.mpr ⟨t_499, List.forall_mem_cons.mpr ⟨t_500, List.forall_mem_cons.mpr ⟨t_501, List.forall_mem_cons.mpr ⟨t_502, List.forall_mem_cons.mpr ⟨t_503, fun _ h => absurd h List.not_mem_nil⟩⟩⟩⟩⟩⟩⟩⟩⟩⟩⟩⟩⟩⟩⟩⟩⟩⟩⟩⟩⟩⟩⟩⟩
theorem tA_21 : ∀ w ∈ wA_21, w ∈ lw_tbl := List.forall_mem_cons.mpr ⟨t_504, List.forall_mem_cons.mpr ⟨t_505, List.forall_mem_cons.mpr ⟨t_506, List.forall_mem_cons.mpr ⟨t_507, List.forall_mem_cons.mpr ⟨t_508, List.forall_mem_cons.mpr ⟨t_509, List.forall_mem_cons.mpr ⟨t_510, List.forall_mem_cons.mpr ⟨t_511, List.forall_mem_cons.mpr ⟨t_512, List.forall_mem_cons.mpr ⟨t_513, List.forall_mem_cons.mpr ⟨t_514, List.forall_mem_cons.mpr ⟨t_515, List.forall_mem_cons.mpr ⟨t_516, List.forall_mem_cons.mpr ⟨t_517, List.forall_mem_cons.mpr ⟨t_518, List.forall_mem_cons.mpr ⟨t_519, List.forall_mem_cons.mpr ⟨t_520, List.forall_mem_cons.mpr ⟨t_521, List.forall_mem_cons.mpr ⟨t_522, List.forall_mem_cons.mpr ⟨t_523, List.forall_mem_cons.mpr ⟨t_524, List.forall_mem_cons.mpr ⟨t_525, List.forall_mem_cons.mpr ⟨t_526, List.forall_mem_cons.mpr ⟨t_527, fun _ h => absurd h List.not_mem_nil⟩⟩⟩⟩⟩⟩⟩⟩⟩⟩⟩⟩⟩⟩⟩⟩⟩⟩⟩⟩⟩⟩⟩⟩
theorem tA_22 : ∀ w ∈ wA_22, w ∈ lw_tbl := List.forall_mem_cons.mpr ⟨t_528, List.forall_mem_cons.mpr ⟨t_529, List.forall_mem_cons.mpr ⟨t_530, List.forall_mem_cons.mpr ⟨t_531, List.forall_mem_cons.mpr ⟨t_532, List.forall_mem_cons.mpr ⟨t_533, List.forall_mem_cons.mpr ⟨t_534, List.forall_mem_cons.mpr ⟨t_535, List.forall_mem_cons.mpr ⟨t_536, List.forall_mem_cons.mpr ⟨t_537, List.forall_mem_cons.mpr ⟨t_538, List.forall_mem_cons.mpr ⟨t_539, List.forall_mem_cons.mpr ⟨t_540, List.forall_mem_cons.mpr ⟨t_541, List.forall_mem_cons.mpr ⟨t_542, List.forall_mem_cons.mpr ⟨t_543, List.forall_mem_cons.mpr ⟨t_544, List.forall_mem_cons.mpr ⟨t_545, List.forall_mem_cons.mpr ⟨t_546, List.forall_mem_cons.mpr ⟨t_547, List.forall_mem_cons.mpr ⟨t_548, List.forall_mem_cons.mpr ⟨t_549, List.forall_mem_cons.mpr ⟨t_550, List.forall_mem_cons.mpr ⟨t_551, fun _ h => absurd h List.not_mem_nil⟩⟩⟩⟩⟩⟩⟩⟩⟩⟩⟩⟩⟩⟩⟩⟩⟩⟩⟩⟩⟩⟩⟩⟩
theorem tA_23 : ∀ w ∈ wA_23, w ∈ lw_tbl := List.forall_mem_cons.mpr ⟨t_552, List.forall_mem_cons.mpr ⟨t_553, List.forall_mem_cons.mpr ⟨t_554, List.forall_mem_cons.mpr ⟨t_555, List.forall_mem_cons.mpr ⟨t_556, List.forall_mem_cons.mpr ⟨t_557, List.forall_mem_cons.mpr ⟨t_558, List.forall_mem_cons.mpr ⟨t_559, List.forall_mem_cons.mpr ⟨t_560, List.forall_mem_cons.mpr ⟨t_561, List.forall_mem_cons.mpr ⟨t_562, List.forall_mem_cons.mpr ⟨t_563, List.forall_mem_cons.mpr ⟨t_564, List.forall_mem_cons.mpr ⟨t_565, List.forall_mem_cons.mpr ⟨t_566, List.forall_mem_cons.mpr ⟨t_567, List.forall_mem_cons.mpr ⟨t_568, List.forall_mem_cons.mpr ⟨t_569, List.forall_mem_cons.mpr ⟨t_570, List.forall_mem_cons.mpr ⟨t_571, List.forall_mem_cons.mpr ⟨t_572, List.forall_mem_cons.mpr ⟨t_573, List.forall_mem_cons.mpr ⟨t_574, List.forall_mem_cons.mpr ⟨t_575, fun _ h => absurd h List.not_mem_nil⟩⟩⟩⟩⟩⟩⟩⟩⟩⟩⟩⟩⟩⟩⟩⟩⟩⟩⟩⟩⟩⟩⟩⟩
theorem tA_24 : ∀ w ∈ wA_24, w ∈ lw_tbl := List.forall_mem_cons.mpr ⟨t_576, List.forall_mem_cons.mpr ⟨t_577, List.forall_mem_cons.mpr ⟨t_578, List.forall_mem_cons.mpr ⟨t_579, List.forall_mem_cons.mpr ⟨t_580, List.forall_mem_cons.mpr ⟨t_581, List.forall_mem_cons.mpr ⟨t_582, List.forall_mem_cons.mpr ⟨t_583, List.forall_mem_cons.mpr ⟨t_584, List.forall_mem_cons.mpr ⟨t_585, List.forall_mem_cons.mpr ⟨t_586, List.forall_mem_cons.mpr ⟨t_587, List.forall_mem_cons.mpr ⟨t_588, List.forall_mem_cons.mpr ⟨t_589, List.forall_mem_cons.mpr ⟨t_590, List.forall_mem_cons.mpr ⟨t_591, List.forall_mem_cons.mpr ⟨t_592, List.forall_mem_cons.mpr ⟨t_593, List.forall_mem_cons.mpr ⟨t_594, List.forall_mem_cons.mpr ⟨t_595, List.forall_mem_cons.mpr ⟨t_596, List.forall_mem_cons.mpr ⟨t_597, List.forall_mem_cons.mpr ⟨t_598, List.forall_mem_cons.mpr ⟨t_599, fun _ h => absurd h List.not_mem_nil⟩⟩⟩⟩⟩⟩⟩⟩⟩⟩⟩⟩⟩⟩⟩⟩⟩⟩⟩⟩⟩⟩⟩⟩
theorem tA_25 : ∀ w ∈ wA_25, w ∈ lw_tbl := List.forall_mem_cons.mpr ⟨t_600, List.forall_mem_cons.mpr ⟨t_601, List.forall_mem_cons.mpr ⟨t_602, List.forall_mem_cons.mpr ⟨t_603, List.forall_mem_cons.mpr ⟨t_604, List.forall_mem_cons.mpr ⟨t_605, List.forall_mem_cons.mpr ⟨t_606, List.forall_mem_cons.mpr ⟨t_607, List.forall_mem_cons.mpr ⟨t_608, List.forall_mem_cons.mpr ⟨t_609, List.forall_mem_cons.mpr ⟨t_610, List.forall_mem_cons.mpr ⟨t_611, List.forall_mem_cons.mpr ⟨t_612, List.forall_mem_cons.mpr ⟨t_613, List.forall_mem_cons.mpr ⟨t_614, List.forall_mem_cons.mpr ⟨t_615, List.forall_mem_cons.mpr ⟨t_616, List.forall_mem_cons.mpr ⟨t_617, List.forall_mem_cons.mpr ⟨t_618, List.forall_mem_cons.mpr ⟨t_619, List.forall_mem_cons.mpr ⟨t_620, List.forall_mem_cons.mpr ⟨t_621, List.forall_mem_cons.mpr ⟨t_622, List.forall_mem_cons.mpr ⟨t_623, fun _ h => absurd h List.not_mem_nil⟩⟩⟩⟩⟩⟩⟩⟩⟩⟩⟩⟩⟩⟩⟩⟩⟩⟩⟩⟩⟩⟩⟩⟩
theorem tA_26 : ∀ w ∈ wA_26, w ∈ lw_tbl := List.forall_mem_cons.mpr ⟨t_624, List.forall_mem_cons.mpr ⟨t_625, List.forall_mem_cons.mpr ⟨t_626, List.forall_mem_cons.mpr ⟨t_627, List.forall_mem_cons.mpr ⟨t_628, List.forall_mem_cons.mpr ⟨t_629, List.forall_mem_cons.mpr ⟨t_630, List.forall_mem_cons.mpr ⟨t_631, List.forall_mem_cons.mpr ⟨t_632, List.forall_mem_cons.mpr ⟨t_633, List.forall_mem_cons.mpr ⟨t_634, List.forall_mem_cons.mpr ⟨t_635, List.forall_mem_cons.mpr ⟨t_636, List.forall_mem_cons.mpr ⟨t_637, List.forall_mem_cons.mpr ⟨t_638, List.forall_mem_cons.mpr ⟨t_639, List.forall_mem_cons.mpr ⟨t_640, List.forall_mem_cons.mpr ⟨t_641, List.forall_mem_cons.mpr ⟨t_642, List.forall_mem_cons.mpr ⟨t_643, List.forall_mem_cons.mpr ⟨t_644, List.forall_mem_cons.mpr ⟨t_645, List.forall_mem_cons.mpr ⟨t_646, List.forall_mem_cons.mpr ⟨t_647, fun _ h => absurd h List.not_mem_nil⟩⟩⟩⟩⟩⟩⟩⟩⟩⟩⟩⟩⟩⟩⟩⟩⟩⟩⟩⟩⟩⟩⟩⟩
theorem tA_27 : ∀ w ∈ wA_27, w ∈ lw_tbl := List.forall_mem_cons.mpr ⟨t_648, List.forall_mem_cons.mpr ⟨t_649, List.forall_mem_cons.mpr ⟨t_650, List.forall_mem_cons.mpr ⟨t_651, List.forall_mem_cons.mpr ⟨t_652, List.forall_mem_cons.mpr ⟨t_653, List.forall_mem_cons.mpr ⟨t_654, List.forall_mem_cons.mpr ⟨t_655, List.forall_mem_cons.mpr ⟨t_656, List.forall_mem_cons.mpr ⟨t_657, List.forall_mem_cons.mpr ⟨t_658, List.forall_mem_cons.mpr ⟨t_659, List.forall_mem_cons.mpr ⟨t_660, List.forall_mem_cons.mpr ⟨t_661, List.forall_mem_cons.mpr ⟨t_662, List.forall_mem_cons.mpr ⟨t_663, List.forall_mem_cons.mpr ⟨t_664, List.forall_mem_cons.mpr ⟨t_665, List.forall_mem_cons.mpr ⟨t_666, List.forall_mem_cons.mpr ⟨t_667, List.forall_mem_cons.mpr ⟨t_668, List.forall_mem_cons.mpr ⟨t_669, List.forall_mem_cons.mpr ⟨t_670, List.forall_mem_cons.mpr ⟨t_671, fun _ h => absurd h List.not_mem_nil⟩⟩⟩⟩⟩⟩⟩⟩⟩⟩⟩⟩⟩⟩⟩⟩⟩⟩⟩⟩⟩⟩⟩⟩
theorem tA_28 : ∀ w ∈ wA_28, w ∈ lw_tbl := List.forall_mem_cons.mpr ⟨t_672, List.forall_mem_cons.mpr ⟨t_673, List.forall_mem_cons.mpr ⟨t_674, List.forall_mem_cons.mpr ⟨t_675, List.forall_mem_cons.mpr ⟨t_676, List.forall_mem_cons.mpr ⟨t_677, List.forall_mem_cons.mpr ⟨t_678, List.forall_mem_cons.mpr ⟨t_679, List.forall_mem_cons.mpr ⟨t_680, List.forall_mem_cons.mpr ⟨t_681, List.forall_mem_cons.mpr ⟨t_682, List.forall_mem_cons.mpr ⟨t_683, List.forall_mem_cons.mpr ⟨t_684, List.forall_mem_cons.mpr ⟨t_685, List.forall_mem_cons.mpr ⟨t_686, List.forall_mem_cons.mpr ⟨t_687, List.forall_mem_cons.mpr ⟨t_688, List.forall_mem_cons.mpr ⟨t_689, List.forall_mem_cons.mpr ⟨t_690, List.forall_mem_cons.mpr ⟨t_691, List.forall_mem_cons.mpr ⟨t_692, List.forall_mem_cons.mpr ⟨t_693, List.forall_mem_cons.mpr ⟨t_694, List.forall_mem_cons.mpr ⟨t_695, fun _ h => absurd h List.not_mem_nil⟩⟩⟩⟩⟩⟩⟩⟩⟩⟩⟩⟩⟩⟩⟩⟩⟩⟩⟩⟩⟩⟩⟩⟩
theorem tA_29 : ∀ w ∈ wA_29, w ∈ lw_tbl := List.forall_mem_cons.mpr ⟨t_696, List.forall_mem_cons.mpr ⟨t_697, List.forall_mem_cons.mpr ⟨t_698, List.forall_mem_cons.mpr ⟨t_699, List.forall_mem_cons.mpr ⟨t_700, List.forall_mem_cons.mpr ⟨t_701, List.forall_mem_cons.mpr ⟨t_702, List.forall_mem_cons.mpr ⟨t_703, List.forall_mem_cons.mpr ⟨t_704, List.forall_mem_cons.mpr ⟨t_705, List.forall_mem_cons.mpr ⟨t_706, List.forall_mem_cons.mpr ⟨t_707, List.forall_mem_cons.mpr ⟨t_708, List.forall_mem_cons.mpr ⟨t_709, List.forall_mem_cons.mpr ⟨t_710, List.forall_mem_cons.mpr ⟨t_711, List.forall_mem_cons.mpr ⟨t_712, List.forall_mem_cons.mpr ⟨t_713, List.forall_mem_cons.mpr ⟨t_714, List.forall_mem_cons.mpr ⟨t_715, List.forall_mem_cons.mpr ⟨t_716, List.forall_mem_cons.mpr ⟨t_717, List.forall_mem_cons.mpr ⟨t_718, List.forall_mem_cons.mpr ⟨t_719, fun _ h => absurd h List.not_mem_nil⟩⟩⟩⟩⟩⟩⟩⟩⟩⟩⟩⟩⟩⟩⟩⟩⟩⟩⟩⟩⟩⟩⟩⟩
theorem tA_30 : ∀ w ∈ wA_30, w ∈ lw_tbl := List.forall_mem_cons.mpr ⟨t_720, List.forall_mem_cons.mpr ⟨t_721, List.forall_mem_cons.mpr ⟨t_722, List.forall_mem_cons.mpr ⟨t_723, List.forall_mem_cons.mpr ⟨t_724, List.forall_mem_cons.mpr ⟨t_725, List.forall_mem_cons.mpr ⟨t_726, List.forall_mem_cons.mpr ⟨t_727, List.forall_mem_cons.mpr ⟨t_728, List.forall_mem_cons.mpr ⟨t_729, List.forall_mem_cons.mpr ⟨t_730, List.forall_mem_cons.mpr ⟨t_731, List.forall_mem_cons.mpr ⟨t_732, List.forall_mem_cons.mpr ⟨t_733, List.forall_mem_cons.mpr ⟨t_734, List.forall_mem_cons.mpr ⟨t_735, List.forall_mem_cons.mpr ⟨t_736, List.forall_mem_cons.mpr ⟨t_737, List.forall_mem_cons.mpr ⟨t_738, List.forall_mem_cons.mpr ⟨t_739, List.forall_mem_cons.mpr ⟨t_740, List.forall_mem_cons.mpr ⟨t_741, List.forall_mem_cons.mpr ⟨t_742, List.forall_mem_cons.mpr ⟨t_743, fun _ h => absurd h List.not_mem_nil⟩⟩⟩⟩⟩⟩⟩⟩⟩⟩⟩⟩⟩⟩⟩⟩⟩⟩⟩⟩⟩⟩⟩⟩
theorem tA_31 : ∀ w ∈ wA_31, w ∈ lw_tbl := List.forall_mem_cons.mpr ⟨t_744, List.forall_mem_cons.mpr ⟨t_745, List.forall_mem_cons.mpr ⟨t_746, List.forall_mem_cons.mpr ⟨t_747, List.forall_mem_cons.mpr ⟨t_748, List.forall_mem_cons.mpr ⟨t_749, List.forall_mem_cons.mpr ⟨t_750, List.forall_mem_cons.mpr ⟨t_751, List.forall_mem_cons.mpr ⟨t_752, List.forall_mem_cons.mpr ⟨t_753, List.forall_mem_cons.mpr ⟨t_754, List.forall_mem_cons.mpr ⟨t_755, List.forall_mem_cons.mpr ⟨t_756, List.forall_mem_cons.mpr ⟨t_757, List.forall_mem_cons.mpr ⟨t_758, List.forall_mem_cons.mpr ⟨t_759, List.forall_mem_cons.mpr ⟨t_760, List.forall_mem_cons.mpr ⟨t_761, List.forall_mem_cons.mpr ⟨t_762, List.forall_mem_cons.mpr ⟨t_763, List.forall_mem_cons.mpr ⟨t_764, List.forall_mem_cons.mpr ⟨t_765, List.forall_mem_cons.mpr ⟨t_766, List.forall_mem_cons.mpr ⟨t_767, fun _ h => absurd h List.not_mem_nil⟩⟩⟩⟩⟩⟩⟩⟩⟩⟩⟩⟩⟩⟩⟩⟩⟩⟩⟩⟩⟩⟩⟩⟩
theorem tA_32 : ∀ w ∈ wA_32, w ∈ lw_tbl := List.forall_mem_cons.mpr ⟨t_768, List.forall_mem_cons.mpr ⟨t_769, List.forall_mem_cons.mpr ⟨t_770, List.forall_mem_cons.mpr ⟨t_771, List.forall_mem_cons.mpr ⟨t_772, List.forall_mem_cons.mpr ⟨t_773, List.forall_mem_cons.mpr ⟨t_774, List.forall_mem_cons.mpr ⟨t_775, List.forall_mem_cons.mpr ⟨t_776, List.forall_mem_cons.mpr ⟨t_777, List.forall_mem_cons.mpr ⟨t_778, List.forall_mem_cons.mpr ⟨t_779, List.forall_mem_cons.mpr ⟨t_780, List.forall_mem_cons.mpr ⟨t_781, List.forall_mem_cons.mpr ⟨t_782, List.forall_mem_cons.mpr ⟨t_783, List.forall_mem_cons.mpr ⟨t_784, List.forall_mem_cons.mpr ⟨t_785, List.forall_mem_cons.mpr ⟨t_786, List.forall_mem_cons.mpr ⟨t_787, List.forall_mem_cons.mpr ⟨t_788, List.forall_mem_cons.mpr ⟨t_789, List.forall_mem_cons.mpr ⟨t_790, List.forall_mem_cons.mpr ⟨t_791, fun _ h => absurd h List.not_mem_nil⟩⟩⟩⟩⟩⟩⟩⟩⟩⟩⟩⟩⟩⟩⟩⟩⟩⟩⟩⟩⟩⟩⟩⟩
theorem tA_33 : ∀ w ∈ wA_33, w ∈ lw_tbl := List.forall_mem_cons.mpr ⟨t_792, List.forall_mem_cons.mpr ⟨t_793, List.forall_mem_cons.mpr ⟨t_794, List.forall_mem_cons.mpr ⟨t_795, List.forall_mem_cons.mpr ⟨t_796, List.forall_mem_cons.mpr ⟨t_797, List.forall_mem_cons.mpr ⟨t_798, List.forall_mem_cons.mpr ⟨t_799, List.forall_mem_cons.mpr ⟨t_800, List.forall_mem_cons.mpr ⟨t_801, List.forall_mem_cons.mpr ⟨t_802, List.forall_mem_cons.mpr ⟨t_803, List.forall_mem_cons.mpr ⟨t_804, List.forall_mem_cons.mpr ⟨t_805, List.forall_mem_cons.mpr ⟨t_806, List.forall_mem_cons.mpr ⟨t_807, List.forall_mem_cons.mpr ⟨t_808, List.forall_mem_cons.mpr ⟨t_809, List.forall_mem_cons.mpr ⟨t_810, List.forall_mem_cons.mpr ⟨t_811, List.forall_mem_cons.mpr ⟨t_812, List.forall_mem_cons.mpr ⟨t_813, List.forall_mem_cons.mpr ⟨t_814, List.forall_mem_cons.mpr ⟨t_815, fun _ h => absurd h List.not_mem_nil⟩⟩⟩⟩⟩⟩⟩⟩⟩⟩⟩⟩⟩⟩⟩⟩⟩⟩⟩⟩⟩⟩⟩⟩
theorem tA_34 : ∀ w ∈ wA_34, w ∈ lw_tbl := List.forall_mem_cons.mpr ⟨t_816, List.forall_mem_cons.mpr ⟨t_817, List.forall_mem_cons.mpr ⟨t_818, List.forall_mem_cons.mpr ⟨t_819, List.forall_mem_cons.mpr ⟨t_820, List.forall_mem_cons.mpr ⟨t_821, List.forall_mem_cons.mpr ⟨t_822, List.forall_mem_cons.mpr ⟨t_823, List.forall_mem_cons.mpr ⟨t_824, List.forall_mem_cons.mpr ⟨t_825, List.forall_mem_cons.mpr ⟨t_826, List.forall_mem_cons.mpr ⟨t_827, List.forall_mem_cons.mpr ⟨t_828, List.forall_mem_cons.mpr ⟨t_829, List.forall_mem_cons.mpr ⟨t_830, List.forall_mem_cons.mpr ⟨t_831, List.forall_mem_cons.mpr ⟨t_832, List.forall_mem_cons.mpr ⟨t_833, List.forall_mem_cons.mpr ⟨t_834, List.forall_mem_cons.mpr ⟨t_835, List.forall_mem_cons.mpr ⟨t_836, List.forall_mem_cons.mpr ⟨t_837, List.forall_mem_cons.mpr ⟨t_838, List.forall_mem_cons.mpr ⟨t_839, fun _ h => absurd h List.not_mem_nil⟩⟩⟩⟩⟩⟩⟩⟩⟩⟩⟩⟩⟩⟩⟩⟩⟩⟩⟩⟩⟩⟩⟩⟩
theorem tA_35 : ∀ w ∈ wA_35, w ∈ lw_tbl := List.forall_mem_cons.mpr ⟨t_840, List.forall_mem_cons.mpr ⟨t_841, List.forall_mem_cons.mpr ⟨t_842, List.forall_mem_cons.mpr ⟨t_843, List.forall_mem_cons.mpr ⟨t_844, List.forall_mem_cons.mpr ⟨t_845, List.forall_mem_cons.mpr ⟨t_846, List.forall_mem_cons.mpr ⟨t_847, List.forall_mem_cons.mpr ⟨t_848, List.forall_mem_cons.mpr ⟨t_849, List.forall_mem_cons.mpr ⟨t_850, List.forall_mem_cons.mpr ⟨t_851, List.forall_mem_cons.mpr ⟨t_852, List.forall_mem_cons.mpr ⟨t_853, List.forall_mem_cons.mpr ⟨t_854, List.forall_mem_cons.mpr ⟨t_855, List.forall_mem_cons.mpr ⟨t_856, List.forall_mem_cons.mpr ⟨t_857, List.forall_mem_cons.mpr ⟨t_858, List.forall_mem_cons.mpr ⟨t_859, List.forall_mem_cons.mpr ⟨t_860, List.forall_mem_cons.mpr ⟨t_861, List.forall_mem_cons.mpr ⟨t_862, List.forall_mem_cons.mpr ⟨t_863, fun _ h => absurd h List.not_mem_nil⟩⟩⟩⟩⟩⟩⟩⟩⟩⟩⟩⟩⟩⟩⟩⟩⟩⟩⟩⟩⟩⟩⟩⟩
theorem tA_36 : ∀ w ∈ wA_36, w ∈ lw_tbl := List.forall_mem_cons.mpr ⟨t_864, List.forall_mem_cons.mpr ⟨t_865, List.forall_mem_cons.mpr ⟨t_866, List.forall_mem_cons.mpr ⟨t_867, List.forall_mem_cons.mpr ⟨t_868, List.forall_mem_cons.mpr ⟨t_869, List.forall_mem_cons.mpr ⟨t_870, List.forall_mem_cons.mpr ⟨t_871, List.forall_mem_cons.mpr ⟨t_872, List.forall_mem_cons.mpr ⟨t_873, List.forall_mem_cons.mpr ⟨t_874, List.forall_mem_cons.mpr ⟨t_875, List.forall_mem_cons.mpr ⟨t_876, List.forall_mem_cons.mpr ⟨t_877, List.forall_mem_cons.mpr ⟨t_878, List.forall_mem_cons.mpr ⟨t_879, List.forall_mem_cons.mpr ⟨t_880, List.forall_mem_cons.mpr ⟨t_881, List.forall_mem_cons.mpr ⟨t_882, List.forall_mem_cons.mpr ⟨t_883, List.forall_mem_cons.mpr ⟨t_884, List.forall_mem_cons.mpr ⟨t_885, List.forall_mem_cons.mpr ⟨t_886, List.forall_mem_cons.mpr ⟨t_887, fun _ h => absurd h List.not_mem_nil⟩⟩⟩⟩⟩⟩⟩⟩⟩⟩⟩⟩⟩⟩⟩⟩⟩⟩⟩⟩⟩⟩⟩⟩
theorem tA_37 : ∀ w ∈ wA_37, w ∈ lw_tbl := List.forall_mem_cons.mpr ⟨t_888, List.forall_mem_cons.mpr ⟨t_889, List.forall_mem_cons.mpr ⟨t_890, List.forall_mem_cons.mpr ⟨t_891, List.forall_mem_cons.mpr ⟨t_892, List.forall_mem_cons.mpr ⟨t_893, List.forall_mem_cons.mpr ⟨t_894, List.forall_mem_cons.mpr ⟨t_895, List.forall_mem_cons.mpr ⟨t_896, List.forall_mem_cons.mpr ⟨t_897, List.forall_mem_cons.mpr ⟨t_898, List.forall_mem_cons.mpr ⟨t_899, List.forall_mem_cons.mpr ⟨t_900, List.forall_mem_cons.mpr ⟨t_901, List.forall_mem_cons.mpr ⟨t_902, List.forall_mem_cons.mpr ⟨t_903, List.forall_mem_cons.mpr ⟨t_904, List.forall_mem_cons.mpr ⟨t_905, List.forall_mem_cons.mpr ⟨t_906, List.forall_mem_cons.mpr ⟨t_907, List.forall_mem_cons.mpr ⟨t_908, List.forall_mem_cons.mpr ⟨t_909, List.forall_mem_cons.mpr ⟨t_910, List.forall_mem_cons.mpr ⟨t_911, fun _ h => absurd h List.not_mem_nil⟩⟩⟩⟩⟩⟩⟩⟩⟩⟩⟩⟩⟩⟩⟩⟩⟩⟩⟩⟩⟩⟩⟩⟩
theorem tA_38 : ∀ w ∈ wA_38, w ∈ lw_tbl := List.forall_mem_cons.mpr ⟨t_912, List.forall_mem_cons.mpr ⟨t_913, List.forall_mem_cons.mpr ⟨t_914, List.forall_mem_cons.mpr ⟨t_915, List.forall_mem_cons.mpr ⟨t_916, List.forall_mem_cons.mpr ⟨t_917, List.forall_mem_cons.mpr ⟨t_918, List.forall_mem_cons.mpr ⟨t_919, List.forall_mem_cons.mpr ⟨t_920, List.forall_mem_cons.mpr ⟨t_921, List.forall_mem_cons.mpr ⟨t_922, List.forall_mem_cons.mpr ⟨t_923, List.forall_mem_cons.mpr ⟨t_924, List.forall_mem_cons.mpr ⟨t_925, List.forall_mem_cons.mpr ⟨t_926, List.forall_mem_cons.mpr ⟨t_927, List.forall_mem_cons.mpr ⟨t_928, List.forall_mem_cons.mpr ⟨t_929, List.forall_mem_cons.mpr ⟨t_930, List.forall_mem_cons.mpr ⟨t_931, List.forall_mem_cons.mpr ⟨t_932, List.forall_mem_cons.mpr ⟨t_933, List.forall_mem_cons.mpr ⟨t_934, List.forall_mem_cons.mpr ⟨t_935, fun _ h => absurd h List.not_mem_nil⟩⟩⟩⟩⟩⟩⟩⟩⟩⟩⟩⟩⟩⟩⟩⟩⟩⟩⟩⟩⟩⟩⟩⟩
theorem tA_39 : ∀ w ∈ wA_39, w ∈ lw_tbl := List.forall_mem_cons.mpr ⟨t_936, List.forall_mem_cons.mpr ⟨t_937, List.forall_mem_cons.mpr ⟨t_938, List.forall_mem_cons.mpr ⟨t_939, List.forall_mem_cons.mpr ⟨t_940, List.forall_mem_cons.mpr ⟨t_941, List.forall_mem_cons.mpr ⟨t_942, List.forall_mem_cons.mpr ⟨t_943, List.forall_mem_cons.mpr ⟨t_944, List.forall_mem_cons.mpr ⟨t_945, List.forall_mem_cons.mpr ⟨t_946, List.forall_mem_cons.mpr ⟨t_947, List.forall_mem_cons.mpr ⟨t_948, List.forall_mem_cons.mpr ⟨t_949, List.forall_mem_cons.mpr ⟨t_950, List.forall_mem_cons.mpr ⟨t_951, List.forall_mem_cons.mpr ⟨t_952, List.forall_mem_cons.mpr ⟨t_953, List.forall_mem_cons.mpr ⟨t_954, List.forall_mem_cons.mpr ⟨t_955, List.forall_mem_cons.mpr ⟨t_956, List.forall_mem_cons.mpr ⟨t_957, List.forall_mem_cons.mpr ⟨t_958, List.forall_mem_cons.mpr ⟨t_959, fun _ h => absurd h List.not_mem_nil⟩⟩⟩⟩⟩⟩⟩⟩⟩⟩⟩⟩⟩⟩⟩⟩⟩⟩⟩⟩⟩⟩⟩⟩
theorem tA_40 : ∀ w ∈ wA_40, w ∈ lw_tbl := List.forall_mem_cons.mpr ⟨t_960, List.forall_mem_cons.mpr ⟨t_961, List.forall_mem_cons.mpr ⟨t_962, List.forall_mem_cons.mpr ⟨t_963, List.forall_mem_cons.mpr ⟨t_964, List.forall_mem_cons.mpr ⟨t_965, List.forall_mem_cons.mpr ⟨t_966, List.forall_mem_cons.mpr ⟨t_967, List.forall_mem_cons.mpr ⟨t_968, List.forall_mem_cons.mpr ⟨t_969, List.forall_mem_cons.mpr ⟨t_970, List.forall_mem_cons.mpr ⟨t_971, List.forall_mem_cons.mpr ⟨t_972, List.forall_mem_cons.mpr ⟨t_973, List.forall_mem_cons.mpr ⟨t_974, List.forall_mem_cons.mpr ⟨t_975, List.forall_mem_cons.mpr ⟨t_976, List.forall_mem_cons.mpr ⟨t_977, List.forall_mem_cons.mpr ⟨t_978, List.forall_mem_cons.mpr ⟨t_979, List.forall_mem_cons.mpr ⟨t_980, List.forall_mem_cons.mpr ⟨t_981, List.forall_mem_cons.mpr ⟨t_982, List.forall_mem_cons.mpr ⟨t_983, fun _ h => absurd h List.not_mem_nil⟩⟩⟩⟩⟩⟩⟩⟩⟩⟩⟩⟩⟩⟩⟩⟩⟩⟩⟩⟩⟩⟩⟩⟩
theorem tA_41 : ∀ w ∈ wA_41, w ∈ lw_tbl := List.forall_mem_cons.mpr ⟨t_984, List.forall_mem_cons.mpr ⟨t_985, List.forall_mem_cons.mpr ⟨t_986, List.forall_mem_cons.mpr ⟨t_987, List.forall_mem_cons.mpr ⟨t_988, List.forall_mem_cons.mpr ⟨t_989, List.forall_mem_cons.mpr ⟨t_990, List.forall_mem_cons.mpr ⟨t_991, List.forall_mem_cons.mpr ⟨t_992, List.forall_mem_cons.mpr ⟨t_993, List.forall_mem_cons.mpr ⟨t_994, List.forall_mem_cons.mpr ⟨t_995, List.forall_mem_cons.mpr ⟨t_996, List.forall_mem_cons.mpr ⟨t_997, List.forall_mem_cons.mpr ⟨t_998, List.forall_mem_cons.mpr ⟨t_999, List.forall_mem_cons.mpr ⟨t_1000, List.forall_mem_cons.mpr ⟨t_1001, List.forall_mem_cons.mpr ⟨t_1002, List.forall_mem_cons.mpr ⟨t_1003, List.forall_mem_cons.mpr ⟨t_1004, List.forall_mem_cons.mpr ⟨t_1005, List.forall_mem_cons.mpr ⟨t_1006, List.forall_mem_cons.mpr ⟨t_1007, fun _ h => absurd h List.not_mem_nil⟩⟩⟩⟩⟩⟩⟩⟩⟩⟩⟩⟩⟩⟩⟩⟩⟩⟩⟩⟩⟩⟩⟩⟩
theorem tA_42 : ∀ w ∈ wA_42, w ∈ lw_tbl := List.forall_mem_cons.mpr ⟨t_1008, List.forall_mem_cons.mpr ⟨t_1009, List.forall_mem_cons.mpr ⟨t_1010, List.forall_mem_cons.mpr ⟨t_1011, List.forall_mem_cons.mpr ⟨t_1012, List.forall_mem_cons.mpr ⟨t_1013, List.forall_mem_cons.mpr ⟨t_1014, List.forall_mem_cons.mpr ⟨t_1015, List.forall_mem_cons.mpr ⟨t_1016, List.forall_mem_cons.mpr ⟨t_1017, List.forall_mem_cons.mpr ⟨t_1018, List.forall_mem_cons.mpr ⟨t_1019, List.forall_mem_cons.mpr ⟨t_1020, List.forall_mem_cons.mpr ⟨t_1021, List.forall_mem_cons.mpr ⟨t_1022, List.forall_mem_cons.mpr ⟨t_1023, List.forall_mem_cons.mpr ⟨t_1024, List.forall_mem_cons.mpr ⟨t_1025, List.forall_mem_cons.mpr ⟨t_1026, List.forall_mem_cons.mpr ⟨t_1027, List.forall_mem_cons.mpr ⟨t_1028, List.forall_mem_cons.mpr ⟨t_1029, List.forall_mem_cons.mpr ⟨t_1030, List.forall_mem_cons.mpr ⟨t_1031, fun _ h => absurd h List.not_mem_nil⟩⟩⟩⟩⟩⟩⟩⟩⟩⟩⟩⟩⟩⟩⟩⟩⟩⟩⟩⟩⟩⟩⟩⟩
theorem tA_43 : ∀ w ∈ wA_43, w ∈ lw_tbl := List.forall_mem_cons.mpr ⟨t_1032, List.forall_mem_cons.mpr ⟨t_1033, List.forall_mem_cons.mpr ⟨t_1034, List.forall_mem_cons.mpr ⟨t_1035, List.forall_mem_cons.mpr ⟨t_1036, List.forall_mem_cons.mpr ⟨t_1037, List.forall_mem_cons.mpr ⟨t_1038, List.forall_mem_cons.mpr ⟨t_1039, List.forall_mem_cons.mpr ⟨t_1040, List.forall_mem_cons.mpr ⟨t_1041, List.forall_mem_cons.mpr ⟨t_1042, List.forall_mem_cons.mpr ⟨t_1043, List.forall_mem_cons.mpr ⟨t_1044, List.forall_mem_cons.mpr ⟨t_1045, List.forall_mem_cons.mpr ⟨t_1046, List.forall_mem_cons.mpr ⟨t_1047, List.forall_mem_cons.mpr ⟨t_1048, List.forall_mem_cons.mpr ⟨t_1049, List.forall_mem_cons.mpr ⟨t_1050, List.forall_mem_cons.mpr ⟨t_1051, List.forall_mem_cons.mpr ⟨t_1052, List.forall_mem_cons.mpr ⟨t_1053, List.forall_mem_cons.mpr ⟨t_1054, List.forall_mem_cons.mpr ⟨t_1055, fun _ h => absurd h List.not_mem_nil⟩⟩⟩⟩⟩⟩⟩⟩⟩⟩⟩⟩⟩⟩⟩⟩⟩⟩⟩⟩⟩⟩⟩⟩
theorem tA_44 : ∀ w ∈ wA_44, w ∈ lw_tbl := List.forall_mem_cons.mpr ⟨t_1056, List.forall_mem_cons.mpr ⟨t_1057, List.forall_mem_cons.mpr ⟨t_1058, List.forall_mem_cons.mpr ⟨t_1059, List.forall_mem_cons.mpr ⟨t_1060, List.forall_mem_cons.mpr ⟨t_1061, List.forall_mem_cons.mpr ⟨t_1062, List.forall_mem_cons.mpr ⟨t_1063, List.forall_mem_cons.mpr ⟨t_1064, List.forall_mem_cons.mpr ⟨t_1065, List.forall_mem_cons.mpr ⟨t_1066, List.forall_mem_cons.mpr ⟨t_1067, List.forall_mem_cons.mpr ⟨t_1068, List.forall_mem_cons.mpr ⟨t_1069, List.forall_mem_cons.mpr ⟨t_1070, List.forall_mem_cons.mpr ⟨t_1071, List.forall_mem_cons.mpr ⟨t_1072, List.forall_mem_cons.mpr ⟨t_1073, List.forall_mem_cons.mpr ⟨t_1074, List.forall_mem_cons.mpr ⟨t_1075, List.forall_mem_cons.mpr ⟨t_1076, List.forall_mem_cons.mpr ⟨t_1077, List.forall_mem_cons.mpr ⟨t_1078, List.forall_mem_cons.mpr ⟨t_1079, fun _ h => absurd h List.not_mem_nil⟩⟩⟩⟩⟩⟩⟩⟩⟩⟩⟩⟩⟩⟩⟩⟩⟩⟩⟩⟩⟩⟩⟩⟩
theorem tA_45 : ∀ w ∈ wA_45, w ∈ lw_tbl := List.forall_mem_cons.mpr ⟨t_1080, List.forall_mem_cons.mpr ⟨t_1081, List.forall_mem_cons.mpr ⟨t_1082, List.forall_mem_cons.mpr ⟨t_1083, List.forall_mem_cons.mpr ⟨t_1084, List.forall_mem_cons.mpr ⟨t_1085, List.forall_mem_cons.mpr ⟨t_1086, List.forall_mem_cons.mpr ⟨t_1087, List.forall_mem_cons.mpr ⟨t_1088, List.forall_mem_cons.mpr ⟨t_1089, List.forall_mem_cons.mpr ⟨t_1090, List.forall_mem_cons.mpr ⟨t_1091, List.forall_mem_cons.mpr ⟨t_1092, List.forall_mem_cons.mpr ⟨t_1093, List.forall_mem_cons.mpr ⟨t_1094, List.forall_mem_cons.mpr ⟨t_1095, List.forall_mem_cons.mpr ⟨t_1096, List.forall_mem_cons.mpr ⟨t_1097, List.forall_mem_cons.mpr ⟨t_1098, List.forall_mem_cons.mpr ⟨t_1099, List.forall_mem_cons.mpr ⟨t_1100, List.forall_mem_cons.mpr ⟨t_1101, List.forall_mem_cons.mpr ⟨t_1102, List.forall_mem_cons.mpr ⟨t_1103, fun _ h => absurd h List.not_mem_nil⟩⟩⟩⟩⟩⟩⟩⟩⟩⟩⟩⟩⟩⟩⟩⟩⟩⟩⟩⟩⟩⟩⟩⟩
theorem tA_46 : ∀ w ∈ wA_46, w ∈ lw_tbl := List.forall_mem_cons.mpr ⟨t_1104, List.forall_mem_cons.mpr ⟨t_1105, List.forall_mem_cons.mpr ⟨t_1106, List.forall_mem_cons.mpr ⟨t_1107, List.forall_mem_cons.mpr ⟨t_1108, List.forall_mem_cons.mpr ⟨t_1109, List.forall_mem_cons.mpr ⟨t_1110, List.forall_mem_cons.mpr ⟨t_1111, List.forall_mem_cons.mpr ⟨t_1112, List.forall_mem_cons.mpr ⟨t_1113, List.forall_mem_cons.mpr ⟨t_1114, List.forall_mem_cons.mpr ⟨t_1115, List.forall_mem_cons.mpr ⟨t_1116, List.forall_mem_cons.mpr ⟨t_1117, List.forall_mem_cons.mpr ⟨t_1118, List.forall_mem_cons.mpr ⟨t_1119, List.forall_mem_cons.mpr ⟨t_1120, List.forall_mem_cons.mpr ⟨t_1121, List.forall_mem_cons.mpr ⟨t_1122, List.forall_mem_cons.mpr ⟨t_1123, List.forall_mem_cons.mpr ⟨t_1124, List.forall_mem_cons.mpr ⟨t_1125, List.forall_mem_cons.mpr ⟨t_1126, List.forall_mem_cons.mpr ⟨t_1127, fun _ h => absurd h List.not_mem_nil⟩⟩⟩⟩⟩⟩⟩⟩⟩⟩⟩⟩⟩⟩⟩⟩⟩⟩⟩⟩⟩⟩⟩⟩
theorem tA_47 : ∀ w ∈ wA_47, w ∈ lw_tbl := List.forall_mem_cons.mpr ⟨t_1128, List.forall_mem_cons.mpr ⟨t_1129, List.forall_mem_cons.mpr ⟨t_1130, List.forall_mem_cons.mpr ⟨t_1131, List.forall_mem_cons.mpr ⟨t_1132, List.forall_mem_cons.mpr ⟨t_1133, List.forall_mem_cons.mpr ⟨t_1134, List.forall_mem_cons.mpr ⟨t_1135, List.forall_mem_cons.mpr ⟨t_1136, List.forall_mem_cons.mpr ⟨t_1137, List.forall_mem_cons.mpr ⟨t_1138, List.forall_mem_cons.mpr ⟨t_1139, List.forall_mem_cons.mpr ⟨t_1140, List.forall_mem_cons.mpr ⟨t_1141, List.forall_mem_cons.mpr ⟨t_1142, List.forall_mem_cons.mpr ⟨t_1143, List.forall_mem_cons.mpr ⟨t_1144, List.forall_mem_cons.mpr ⟨t_1145, List.forall_mem_cons.mpr ⟨t_1146, List.forall_mem_cons.mpr ⟨t_1147, List.forall_mem_cons.mpr ⟨t_1148, List.forall_mem_cons.mpr ⟨t_1149, List.forall_mem_cons.mpr ⟨t_1150, List.forall_mem_cons.mpr ⟨t_1151, fun _ h => absurd h List.not_mem_nil⟩⟩⟩⟩⟩⟩⟩⟩⟩⟩⟩⟩⟩⟩⟩⟩⟩⟩⟩⟩⟩⟩⟩⟩
theorem tA_48 : ∀ w ∈ wA_48, w ∈ lw_tbl := List.forall_mem_cons.mpr ⟨t_1152, List.forall_mem_cons.mpr ⟨t_1153, List.forall_mem_cons.mpr ⟨t_1154, List.forall_mem_cons.mpr ⟨t_1155, List.forall_mem_cons.mpr ⟨t_1156, List.forall_mem_cons.mpr ⟨t_1157, List.forall_mem_cons.mpr ⟨t_1158, List.forall_mem_cons.mpr ⟨t_1159, List.forall_mem_cons.mpr ⟨t_1160, List.forall_mem_cons.mpr ⟨t_1161, List.forall_mem_cons.mpr ⟨t_1162, List.forall_mem_cons.mpr ⟨t_1163, List.forall_mem_cons.mpr ⟨t_1164, List.forall_mem_cons.mpr ⟨t_1165, List.forall_mem_cons.mpr ⟨t_1166, List.forall_mem_cons.mpr ⟨t_1167, List.forall_mem_cons.mpr ⟨t_1168, List.forall_mem_cons.mpr ⟨t_1169, List.forall_mem_cons.mpr ⟨t_1170, List.forall_mem_cons.mpr ⟨t_1171, List.forall_mem_cons.mpr ⟨t_1172, List.forall_mem_cons.mpr ⟨t_1173, List.forall_mem_cons.mpr ⟨t_1174, List.forall_mem_cons.mpr ⟨t_1175, fun _ h => absurd h List.not_mem_nil⟩⟩⟩⟩⟩⟩⟩⟩⟩⟩⟩⟩⟩⟩⟩⟩⟩⟩⟩⟩⟩⟩⟩⟩
theorem tA_49 : ∀ w ∈ wA_49, w ∈ lw_tbl := List.forall_mem_cons.mpr ⟨t_1176, List.forall_mem_cons.mpr ⟨t_1177, List.forall_mem_cons.mpr ⟨t_1178, List.forall_mem_cons.mpr ⟨t_1179, List.forall_mem_cons.mpr ⟨t_1180, List.forall_mem_cons.mpr ⟨t_1181, List.forall_mem_cons.mpr ⟨t_1182, List.forall_mem_cons.mpr ⟨t_1183, List.forall_mem_cons.mpr ⟨t_1184, List.forall_mem_cons.mpr ⟨t_1185, List.forall_mem_cons.mpr ⟨t_1186, List.forall_mem_cons.mpr ⟨t_1187, List.forall_mem_cons.mpr ⟨t_1188, List.forall_mem_cons.mpr ⟨t_1189, List.forall_mem_cons.mpr ⟨t_1190, List.forall_mem_cons.mpr ⟨t_1191, List.forall_mem_cons.mpr ⟨t_1192, List.forall_mem_cons.mpr ⟨t_1193, List.forall_mem_cons.mpr ⟨t_1194, List.forall_mem_cons.mpr ⟨t_1195, List.forall_mem_cons.mpr ⟨t_1196, List.forall_mem_cons.mpr ⟨t_1197, List.forall_mem_cons.mpr ⟨t_1198, List.forall_mem_cons.mpr ⟨t_1199, fun _ h => absurd h List.not_mem_nil⟩⟩⟩⟩⟩⟩⟩⟩⟩⟩⟩⟩⟩⟩⟩⟩⟩⟩⟩⟩⟩⟩⟩⟩
theorem tA_50 : ∀ w ∈ wA_50, w ∈ lw_tbl := List.forall_mem_cons.mpr ⟨t_1200, List.forall_mem_cons.mpr ⟨t_1201, List.forall_mem_cons.mpr ⟨t_1202, List.forall_mem_cons.mpr ⟨t_1203, List.forall_mem_cons.mpr ⟨t_1204, List.forall_mem_cons.mpr ⟨t_1205, List.forall_mem_cons.mpr ⟨t_1206, List.forall_mem_cons.mpr ⟨t_1207, List.forall_mem_cons.mpr ⟨t_1208, List.forall_mem_cons.mpr ⟨t_1209, List.forall_mem_cons.mpr ⟨t_1210, List.forall_mem_cons.mpr ⟨t_1211, List.forall_mem_cons.mpr ⟨t_1212, List.forall_mem_cons.mpr ⟨t_1213, List.forall_mem_cons.mpr ⟨t_1214, List.forall_mem_cons.mpr ⟨t_1215, List.forall_mem_cons.mpr ⟨t_1216, List.forall_mem_cons.mpr ⟨t_1217, List.forall_mem_cons.mpr ⟨t_1218, List.forall_mem_cons.mpr ⟨t_1219, List.forall_mem_cons.mpr ⟨t_1220, List.forall_mem_cons.mpr ⟨t_1221, List.forall_mem_cons.mpr ⟨t_1222, List.forall_mem_cons.mpr ⟨t_1223, fun _ h => absurd h List.not_mem_nil⟩⟩⟩⟩⟩⟩⟩⟩⟩⟩⟩⟩⟩⟩⟩⟩⟩⟩⟩⟩⟩⟩⟩⟩
theorem tA_51 : ∀ w ∈ wA_51, w ∈ lw_tbl := List.forall_mem_cons.mpr ⟨t_1224, List.forall_mem_cons.mpr ⟨t_1225, List.forall_mem_cons.mpr ⟨t_1226, List.forall_mem_cons.mpr ⟨t_1227, List.forall_mem_cons.mpr ⟨t_1228, List.forall_mem_cons.mpr ⟨t_1229, List.forall_mem_cons.mpr ⟨t_1230, List.forall_mem_cons.mpr ⟨t_1231, List.forall_mem_cons.mpr ⟨t_1232, List.forall_mem_cons.mpr ⟨t_1233, List.forall_mem_cons.mpr ⟨t_1234, List.forall_mem_cons.mpr ⟨t_1235, List.forall_mem_cons.mpr ⟨t_1236, List.forall_mem_cons.mpr ⟨t_1237, List.forall_mem_cons.mpr ⟨t_1238, List.forall_mem_cons.mpr ⟨t_1239, List.forall_mem_cons.mpr ⟨t_1240, List.forall_mem_cons.mpr ⟨t_1241, List.forall_mem_cons.mpr ⟨t_1242, List.forall_mem_cons.mpr ⟨t_1243, List.forall_mem_cons.mpr ⟨t_1244, List.forall_mem_cons.mpr ⟨t_1245, List.forall_mem_cons.mpr ⟨t_1246, List.forall_mem_cons.mpr ⟨t_1247, fun _ h => absurd h List.not_mem_nil⟩⟩⟩⟩⟩⟩⟩⟩⟩⟩⟩⟩⟩⟩⟩⟩⟩⟩⟩⟩⟩⟩⟩⟩
theorem tA_52 : ∀ w ∈ wA_52, w ∈ lw_tbl := List.forall_mem_cons.mpr ⟨t_1248, List.forall_mem_cons.mpr ⟨t_1249, List.forall_mem_cons.mpr ⟨t_1250, List.forall_mem_cons.mpr ⟨t_1251, List.forall_mem_cons.mpr ⟨t_1252, List.forall_mem_cons.mpr ⟨t_1253, List.forall_mem_cons.mpr ⟨t_1254, List.forall_mem_cons.mpr ⟨t_1255, List.forall_mem_cons.mpr ⟨t_1256, List.forall_mem_cons.mpr ⟨t_1257, List.forall_mem_cons.mpr ⟨t_1258, List.forall_mem_cons.mpr ⟨t_1259, List.forall_mem_cons.mpr ⟨t_1260, List.forall_mem_cons.mpr ⟨t_1261, List.forall_mem_cons.mpr ⟨t_1262, List.forall_mem_cons.mpr ⟨t_1263, List.forall_mem_cons.mpr ⟨t_1264, List.forall_mem_cons.mpr ⟨t_1265, List.forall_mem_cons.mpr ⟨t_1266, List.forall_mem_cons.mpr ⟨t_1267, List.forall_mem_cons.mpr ⟨t_1268, List.forall_mem_cons.mpr ⟨t_1269, List.forall_mem_cons.mpr ⟨t_1270, List.forall_mem_cons.mpr ⟨t_1271, fun _ h => absurd h List.not_mem_nil⟩⟩⟩⟩⟩⟩⟩⟩⟩⟩⟩⟩⟩⟩⟩⟩⟩⟩⟩⟩⟩⟩⟩⟩
theorem tA_53 : ∀ w ∈ wA_53, w ∈ lw_tbl := List.forall_mem_cons.mpr ⟨t_1272, List.forall_mem_cons.mpr ⟨t_1273, List.forall_mem_cons.mpr ⟨t_1274, List.forall_mem_cons.mpr ⟨t_1275, List.forall_mem_cons.mpr ⟨t_1276, List.forall_mem_cons.mpr ⟨t_1277, List.forall_mem_cons.mpr ⟨t_1278, List.forall_mem_cons.mpr ⟨t_1279, List.forall_mem_cons.mpr ⟨t_1280, List.forall_mem_cons.mpr ⟨t_1281, List.forall_mem_cons.mpr ⟨t_1282, List.forall_mem_cons.mpr ⟨t_1283, List.forall_mem_cons.mpr ⟨t_1284, List.forall_mem_cons.mpr ⟨t_1285, List.forall_mem_cons.mpr ⟨t_1286, List.forall_mem_cons.mpr ⟨t_1287, List.forall_mem_cons.mpr ⟨t_1288, List.forall_mem_cons.mpr ⟨t_1289, List.forall_mem_cons.mpr ⟨t_1290, List.forall_mem_cons.mpr ⟨t_1291, List.forall_mem_cons.mpr ⟨t_1292, List.forall_mem_cons.mpr ⟨t_1293, List.forall_mem_cons.mpr ⟨t_1294, List.forall_mem_cons.mpr ⟨t_1295, fun _ h => absurd h List.not_mem_nil⟩⟩⟩⟩⟩⟩⟩⟩⟩⟩⟩⟩⟩⟩⟩⟩⟩⟩⟩⟩⟩⟩⟩⟩
theorem tA_54 : ∀ w ∈ wA_54, w ∈ lw_tbl := List.forall_mem_cons.mpr ⟨t_1296, List.forall_mem_cons.mpr ⟨t_1297, List.forall_mem_cons.mpr ⟨t_1298, List.forall_mem_cons.mpr ⟨t_1299, List.forall_mem_cons.mpr ⟨t_1300, List.forall_mem_cons.mpr ⟨t_1301, List.forall_mem_cons.mpr ⟨t_1302, List.forall_mem_cons.mpr ⟨t_1303, List.forall_mem_cons.mpr ⟨t_1304, List.forall_mem_cons.mpr ⟨t_1305, List.forall_mem_cons.mpr ⟨t_1306, List.forall_mem_cons.mpr ⟨t_1307, List.forall_mem_cons.mpr ⟨t_1308, List.forall_mem_cons.mpr ⟨t_1309, List.forall_mem_cons.mpr ⟨t_1310, List.forall_mem_cons.mpr ⟨t_1311, List.forall_mem_cons.mpr ⟨t_1312, List.forall_mem_cons.mpr ⟨t_1313, List.forall_mem_cons.mpr ⟨t_1314, List.forall_mem_cons.mpr ⟨t_1315, List.forall_mem_cons.mpr ⟨t_1316, List.forall_mem_cons.mpr ⟨t_1317, List.forall_mem_cons.mpr ⟨t_1318, List.forall_mem_cons.mpr ⟨t_1319, fun _ h => absurd h List.not_mem_nil⟩⟩⟩⟩⟩⟩⟩⟩⟩⟩⟩⟩⟩⟩⟩⟩⟩⟩⟩⟩⟩⟩⟩⟩
theorem tA_55 : ∀ w ∈ wA_55, w ∈ lw_tbl := List.forall_mem_cons.mpr ⟨t_1320, List.forall_mem_cons.mpr ⟨t_1321, List.forall_mem_cons.mpr ⟨t_1322, List.forall_mem_cons.mpr ⟨t_1323, List.forall_mem_cons.mpr ⟨t_1324, List.forall_mem_cons.mpr ⟨t_1325, List.forall_mem_cons.mpr ⟨t_1326, List.forall_mem_cons.mpr ⟨t_1327, List.forall_mem_cons.mpr ⟨t_1328, List.forall_mem_cons.mpr ⟨t_1329, List.forall_mem_cons.mpr ⟨t_1330, List.forall_mem_cons.mpr ⟨t_1331, List.forall_mem_cons.mpr ⟨t_1332, List.forall_mem_cons.mpr ⟨t_1333, List.forall_mem_cons.mpr ⟨t_1334, List.forall_mem_cons.mpr ⟨t_1335, List.forall_mem_cons.mpr ⟨t_1336, List.forall_mem_cons.mpr ⟨t_1337, List.forall_mem_cons.mpr ⟨t_1338, List.forall_mem_cons.mpr ⟨t_1339, List.forall_mem_cons.mpr ⟨t_1340, List.forall_mem_cons.mpr ⟨t_1341, List.forall_mem_cons.mpr ⟨t_1342, List.forall_mem_cons.mpr ⟨t_1343, fun _ h => absurd h List.not_mem_nil⟩⟩⟩⟩⟩⟩⟩⟩⟩⟩⟩⟩⟩⟩⟩⟩⟩⟩⟩⟩⟩⟩⟩⟩
theorem tA_56 : ∀ w ∈ wA_56, w ∈ lw_tbl := List.forall_mem_cons.mpr ⟨t_1344, List.forall_mem_cons.mpr ⟨t_1345, List.forall_mem_cons.mpr ⟨t_1346, fun _ h => absurd h List.not_mem_nil⟩⟩⟩
set_option maxRecDepth 20000 in
theorem tU_X0 : ∀ w ∈ wsX00, w ∈ lw_tbl := fun w h => List.mem_append_right _ (mem_r (big := tables_1) [137, 139, 141, 143, 145, 147, 149, 151, 153, 155] (by decide +kernel) w h)
set_option maxRecDepth 20000 in
theorem tU_X1 : ∀ w ∈ wsX10, w ∈ lw_tbl := fun w h => List.mem_append_right _ (mem_r (big := tables_1) [226, 228, 230, 232, 234, 236, 238, 240] (by decide +kernel) w h)
set_option maxRecDepth 20000 in
theorem tU_X2 : ∀ w ∈ wsX20, w ∈ lw_tbl := fun w h => List.mem_append_right _ (mem_r (big := tables_1) [260, 262, 264, 266, 268] (by decide +kernel) w h)
set_option maxRecDepth 20000 in
theorem tU_X3 : ∀ w ∈ wsX30, w ∈ lw_tbl := fun w h => List.mem_append_right _ (mem_r (big := tables_1) [172, 174, 176, 178, 180, 182, 184, 186, 188, 190] (by decide +kernel) w h)
set_option maxRecDepth 20000 in
theorem tU_X4 : ∀ w ∈ wsX40, w ∈ lw_tbl := fun w h => List.mem_append_right _ (mem_r (big := tables_1) [339, 341, 343, 345, 347, 349, 351, 353, 355, 357, 359, 361, 363, 365, 367, 369, 371] (by decide +kernel) w h)
set_option maxRecDepth 20000 in
theorem tU_X5 : ∀ w ∈ wsX50, w ∈ lw_tbl := fun w h => List.mem_append_right _ (mem_r (big := tables_1) [433, 435, 437, 439] (by decide +kernel) w h)
set_option maxRecDepth 20000 in
theorem tU_X6 : ∀ w ∈ wsX60, w ∈ lw_tbl := fun w h => List.mem_append_right _ (mem_r (big := tables_1) [291, 293, 295, 297, 299, 301, 303, 305] (by decide +kernel) w h)
set_option maxRecDepth 20000 in
theorem tU_X7 : ∀ w ∈ wsX70, w ∈ lw_tbl := fun w h => List.mem_append_right _ (mem_r (big := tables_1) [84, 86, 88, 90, 92, 94, 96, 98, 100, 102, 104, 106] (by decide +kernel) w h)
set_option maxRecDepth 20000 in
theorem tU_X8 : ∀ w ∈ wsX80, w ∈ lw_tbl := fun w h => List.mem_append_right _ (mem_r (big := tables_1) [394, 396, 398, 400, 402, 404, 406, 408, 410, 412, 414] (by decide +kernel) w h)
set_option maxRecDepth 20000 in
theorem tU_X9 : ∀ w ∈ wsX90, w ∈ lw_tbl := fun w h => List.mem_append_right _ (mem_r (big := tables_1) [453, 455, 457, 459, 461, 463, 465, 467, 469, 471] (by decide +kernel) w h)
set_option maxRecDepth 20000 in
theorem tU_X10 : ∀ w ∈ wsX100, w ∈ lw_tbl := fun w h => List.mem_append_right _ (mem_r (big := tables_1) [1174, 1176, 1178, 1180, 1182, 1184, 1186, 1188, 1190, 1192, 1194, 1196, 1198, 1200, 1202, 1204, 1206, 1208, 1210, 1212, 1214, 1216, 1218, 1220, 1222, 1224, 1226, 1228, 1230, 1232, 1234, 1236, 1238, 1240, 1242, 1244, 1246, 1248, 1250, 1252, 1254] (by decide +kernel) w h)
theorem wAll_in : ∀ w ∈ wAll, w ∈ lw_tbl := List.forall_mem_append.mpr ⟨tA_0, List.forall_mem_append.mpr ⟨tA_1, List.forall_mem_append.mpr ⟨tA_2, List.forall_mem_append.mpr ⟨tA_3, List.forall_mem_append.mpr ⟨tA_4, List.forall_mem_append.mpr ⟨tA_5, List.forall_mem_append.mpr ⟨tA_6, List.forall_mem_append.mpr ⟨tA_7, List.forall_mem_append.mpr ⟨tA_8, List.forall_mem_append.mpr ⟨tA_9, List.forall_mem_append.mpr ⟨tA_10, List.forall_mem_append.mpr ⟨tA_11, List.forall_mem_append.mpr ⟨tA_12, List.forall_mem_append.mpr ⟨tA_13, List.forall_mem_append.mpr ⟨tA_14, List.forall_mem_append.mpr ⟨tA_15, List.forall_mem_append.mpr ⟨tA_16, List.forall_mem_append.mpr ⟨tA_17, List.forall_mem_append.mpr ⟨tA_18, List.forall_mem_append.mpr ⟨tA_19, List.forall_mem_append.mpr ⟨tA_20, List.forall_mem_append.mpr ⟨tA_21, List.forall_mem_append.mpr ⟨tA_22, List.forall_mem_append.mpr ⟨tA_23, List.forall_mem_append.mpr ⟨tA_24, List.forall_mem_append.mpr ⟨tA_25, List.forall_mem_append.mpr ⟨tA_26, List.forall_mem_append.mpr ⟨tA_27, List.forall_mem_append.mpr ⟨tA_28, List.forall_mem_append.mpr ⟨tA_29, List.forall_mem_append.mpr ⟨tA_30, List.forall_mem_append.mpr ⟨tA_31, List.forall_mem_append.mpr ⟨tA_32, List.forall_mem_append.mpr ⟨tA_33, List.forall_mem_append.mpr ⟨tA_34, List.forall_mem_append.mpr ⟨tA_35, List.forall_mem_append.mpr ⟨tA_36, List.forall_mem_append.mpr ⟨tA_37, List.forall_mem_append.mpr ⟨tA_38, List.forall_mem_append.mpr ⟨tA_39, List.forall_mem_append.mpr ⟨tA_40, List.forall_mem_append.mpr ⟨tA_41, List.forall_mem_append.mpr ⟨tA_42, List.forall_mem_append.mpr ⟨tA_43, List.forall_mem_append.mpr ⟨tA_44, List.forall_mem_append.mpr ⟨tA_45, List.forall_mem_append.mpr ⟨tA_46, List.forall_mem_append.mpr ⟨tA_47, List.forall_mem_append.mpr ⟨tA_48, List.forall_mem_append.mpr ⟨tA_49, List.forall_mem_append.mpr ⟨tA_50, List.forall_mem_append.mpr ⟨tA_51, List.forall_mem_append.mpr ⟨tA_52, List.forall_mem_append.mpr ⟨tA_53, List.forall_mem_append.mpr ⟨tA_54, List.forall_mem_append.mpr ⟨tA_55, List.forall_mem_append.mpr ⟨tA_56, List.forall_mem_append.mpr ⟨tU_X0, List.forall_mem_append.mpr ⟨tU_X1, List.forall_mem_append.mpr ⟨tU_X2, List.forall_mem_append.mpr ⟨tU_X3, List.forall_mem_append.mpr ⟨tU_X4, List.forall_mem_append.mpr ⟨tU_X5, List.forall_mem_append.mpr ⟨tU_X6, List.forall_mem_append.mpr ⟨tU_X7, List.forall_mem_append.mpr ⟨tU_X8, List.forall_mem_append.mpr ⟨tU_X9, tU_X10⟩⟩⟩⟩⟩⟩⟩⟩⟩⟩⟩⟩⟩⟩⟩⟩⟩⟩⟩⟩⟩⟩⟩⟩⟩⟩⟩⟩⟩⟩⟩⟩⟩⟩⟩⟩⟩⟩⟩⟩⟩⟩⟩⟩⟩⟩⟩⟩⟩⟩⟩⟩⟩⟩⟩⟩⟩⟩⟩⟩⟩⟩⟩⟩⟩⟩⟩
theorem gd_wA_0 : wA_0.all goodWord = true := by decide +kernel
theorem gd_wA_1 : wA_1.all goodWord = true := by decide +kernel
theorem gd_wA_2 : wA_2.all goodWord = true := by decide +kernel
theorem gd_wA_3 : wA_3.all goodWord = true := by decide +kernel
theorem gd_wA_4 : wA_4.all goodWord = true := by decide +kernel
theorem gd_wA_5 : wA_5.all goodWord = true := by decide +kernel
theorem gd_wA_6 : wA_6.all goodWord = true := by decide +kernel
theorem gd_wA_7 : wA_7.all goodWord = true := by decide +kernel
theorem gd_wA_8 : wA_8.all goodWord = true := by decide +kernel
theorem gd_wA_9 : wA_9.all goodWord = true := by decide +kernel
theorem gd_wA_10 : wA_10.all goodWord = true := by decide +kernel
theorem gd_wA_11 : wA_11.all goodWord = true := by decide +kernel
theorem gd_wA_12 : wA_12.all goodWord = true := by decide +kernel
theorem gd_wA_13 : wA_13.all goodWord = true := by decide +kernel
theorem gd_wA_14 : wA_14.all goodWord = true := by decide +kernel
theorem gd_wA_15 : wA_15.all goodWord = true := by decide +kernel
theorem gd_wA_16 : wA_16.all goodWord = true := by decide +kernel
theorem gd_wA_17 : wA_17.all goodWord = true := by decide +kernel
theorem gd_wA_18 : wA_18.all goodWord = true := by decide +kernel
theorem gd_wA_19 : wA_19.all goodWord = true := by decide +kernel
theorem gd_wA_20 : wA_20.all goodWord = true := by decide +kernel
theorem gd_wA_21 : wA_21.all goodWord = true := by decide +kernel
theorem gd_wA_22 : wA_22.all goodWord = true := by decide +kernel
theorem gd_wA_23 : wA_23.all goodWord = true := by decide +kernel
theorem gd_wA_24 : wA_24.all goodWord = true := by decide +kernel
theorem gd_wA_25 : wA_25.all goodWord = true := by decide +kernel
theorem gd_wA_26 : wA_26.all goodWord = true := by decide +kernel
theorem gd_wA_27 : wA_27.all goodWord = true := by decide +kernel
theorem gd_wA_28 : wA_28.all goodWord = true := by decide +kernel
theorem gd_wA_29 : wA_29.all goodWord = true := by decide +kernel
theorem gd_wA_30 : wA_30.all goodWord = true := by decide +kernel
theorem gd_wA_31 : wA_31.all goodWord = true := by decide +kernel
theorem gd_wA_32 : wA_32.all goodWord = true := by decide +kernel
theorem gd_wA_33 : wA_33.all goodWord = true := by decide +kernel
theorem gd_wA_34 : wA_34.all goodWord = true := by decide +kernel
theorem gd_wA_35 : wA_35.all goodWord = true := by decide +kernel
theorem gd_wA_36 : wA_36.all goodWord = true := by decide +kernel
theorem gd_wA_37 : wA_37.all goodWord = true := by decide +kernel
theorem gd_wA_38 : wA_38.all goodWord = true := by decide +kernel
theorem gd_wA_39 : wA_39.all goodWord = true := by decide +kernel
theorem gd_wA_40 : wA_40.all goodWord = true := by decide +kernel
theorem gd_wA_41 : wA_41.all goodWord = true := by decide +kernel
theorem gd_wA_42 : wA_42.all goodWord = true := by decide +kernel
theorem gd_wA_43 : wA_43.all goodWord = true := by decide +kernel
theorem gd_wA_44 : wA_44.all goodWord = true := by decide +kernel
theorem gd_wA_45 : wA_45.all goodWord = true := by decide +kernel
theorem gd_wA_46 : wA_46.all goodWord = true := by decide +kernel
theorem gd_wA_47 : wA_47.all goodWord = true := by decide +kernel
theorem gd_wA_48 : wA_48.all goodWord = true := by decide +kernel
theorem gd_wA_49 : wA_49.all goodWord = true := by decide +kernel
theorem gd_wA_50 : wA_50.all goodWord = true := by decide +kernel
theorem gd_wA_51 : wA_51.all goodWord = true := by decide +kernel
theorem gd_wA_52 : wA_52.all goodWord = true := by decide +kernel
theorem gd_wA_53 : wA_53.all goodWord = true := by decide +kernel
theorem gd_wA_54 : wA_54.all goodWord = true := by decide +kernel
theorem gd_wA_55 : wA_55.all goodWord = true := by decide +kernel
theorem gd_wA_56 : wA_56.all goodWord = true := by decide +kernel
theorem gd_wsX00 : wsX00.all goodWord = true := by decide +kernel
theorem gd_wsX10 : wsX10.all goodWord = true := by decide +kernel
theorem gd_wsX20 : wsX20.all goodWord = true := by decide +kernel
theorem gd_wsX30 : wsX30.all goodWord = true := by decide +kernel
theorem gd_wsX40 : wsX40.all goodWord = true := by decide +kernel
theorem gd_wsX50 : wsX50.all goodWord = true := by decide +kernel
theorem gd_wsX60 : wsX60.all goodWord = true := by decide +kernel
theorem gd_wsX70 : wsX70.all goodWord = true := by decide +kernel
theorem gd_wsX80 : wsX80.all goodWord = true := by decide +kernel
theorem gd_wsX90 : wsX90.all goodWord = true := by decide +kernel
theorem gd_wsX100 : wsX100.all goodWord = true := by decide +kernel
theorem wAll_good : ∀ w ∈ wAll, goodWord w = true := List.forall_mem_append.mpr ⟨fun w h => List.all_eq_true.mp gd_wA_0 w h, List.forall_mem_append.mpr ⟨fun w h => List.all_eq_true.mp gd_wA_1 w h, List.forall_mem_append.mpr ⟨fun w h => List.all_eq_true.mp gd_wA_2 w h, List.forall_mem_append.mpr ⟨fun w h => List.all_eq_true.mp gd_wA_3 w h, List.forall_mem_append.mpr ⟨fun w h => List.all_eq_true.mp gd_wA_4 w h, List.forall_mem_append.mpr ⟨fun w h => List.all_eq_true.mp gd_wA_5 w h, List.forall_mem_append.mpr ⟨fun w h => List.all_eq_true.mp gd_wA_6 w h, List.forall_mem_append.mpr ⟨fun w h => List.all_eq_true.mp gd_wA_7 w h, List.forall_mem_append.mpr ⟨fun w h => List.all_eq_true.mp gd_wA_8 w h, List.forall_mem_append.mpr ⟨fun w h => List.all_eq_true.mp gd_wA_9 w h, List.forall_mem_append.mpr ⟨fun w h => List.all_eq_true.mp gd_wA_10 w h, List.forall_mem_append.mpr ⟨fun w h => List.all_eq_true.mp gd_wA_11 w h, List.forall_mem_append.mpr ⟨fun w h => List.all_eq_true.mp gd_wA_12 w h, List.forall_mem_append.mpr ⟨fun w h => List.all_eq_true.mp gd_wA_13 w h, List.forall_mem_append.mpr ⟨fun w h => List.all_eq_true.mp gd_wA_14 w h, List.forall_mem_append.mpr ⟨fun w h => List.all_eq_true.mp gd_wA_15 w h, List.forall_mem_append.mpr ⟨fun w h => List.all_eq_true.mp gd_wA_16 w h, List.forall_mem_append.mpr ⟨fun w h => List.all_eq_true.mp gd_wA_17 w h, List.forall_mem_append.mpr ⟨fun w h => List.all_eq_true.mp gd_wA_18 w h, List.forall_mem_append.mpr ⟨fun w h => List.all_eq_true.mp gd_wA_19 w h, List.forall_mem_append.mpr ⟨fun w h => List.all_eq_true.mp gd_wA_20 w h, List.forall_mem_append.mpr ⟨fun w h => List.all_eq_true.mp gd_wA_21 w h, List.forall_mem_append.mpr ⟨fun w h => List.all_eq_true.mp gd_wA_22 w h, List.forall_mem_append.mpr ⟨fun w h => List.all_eq_true.mp gd_wA_23 w h, List.forall_mem_append.mpr ⟨fun w h => List.all_eq_true.mp gd_wA_24 w h, List.forall_mem_append.mpr ⟨fun w h => List.all_eq_true.mp gd_wA_25 w h, List.forall_mem_append.mpr ⟨fun w h => List.all_eq_true.mp gd_wA_26 w h, List.forall_mem_append.mpr ⟨fun w h => List.all_eq_true.mp gd_wA_27 w h, List.forall_mem_append.mpr ⟨fun w h => List.all_eq_true.mp gd_wA_28 w h, List.forall_mem_append.mpr ⟨fun w h => List.all_eq_true.mp gd_wA_29 w h, List.forall_mem_append.mpr ⟨fun w h => List.all_eq_true.mp gd_wA_30 w h, List.forall_mem_append.mpr ⟨fun w h => List.all_eq_true.mp gd_wA_31 w h, List.forall_mem_append.mpr ⟨fun w h => List.all_eq_true.mp gd_wA_32 w h, List.forall_mem_append.mpr ⟨fun w h => List.all_eq_true.mp gd_wA_33 w h, List.forall_mem_append.mpr ⟨fun w h => List.all_eq_true.mp gd_wA_34 w h, List.forall_mem_append.mpr ⟨fun w h => List.all_eq_true.mp gd_wA_35 w h, List.forall_mem_append.mpr ⟨fun w h => List.all_eq_true.mp gd_wA_36 w h, List.forall_mem_append.mpr ⟨fun w h => List.all_eq_true.mp gd_wA_37 w h, List.forall_mem_append.mpr ⟨fun w h => List.all_eq_true.mp gd_wA_38 w h, List.forall_mem_append.mpr ⟨fun w h => List.all_eq_true.mp gd_wA_39 w h, List.forall_mem_append.mpr ⟨fun w h => List.all_eq_true.mp gd_wA_40 w h, List.forall_mem_append.mpr ⟨fun w h => List.all_eq_true.mp gd_wA_41 w h, List.forall_mem_append.mpr ⟨fun w h => List.all_eq_true.mp gd_wA_42 w h, List.forall_mem_append.mpr ⟨fun w h => List.all_eq_true.mp gd_wA_43 w h, List.forall_mem_append.mpr ⟨fun w h => List.all_eq_true.mp gd_wA_44 w h, List.forall_mem_append.mpr ⟨fun w h => List.all_eq_true.mp gd_wA_45 w h, List.forall_mem_append.mpr ⟨fun w h => List.all_eq_true.mp gd_wA_46 w h, List.forall_mem_append.mpr ⟨fun w h => List.all_eq_true.mp gd_wA_47 w h, List.forall_mem_append.mpr ⟨fun w h => List.all_eq_true.mp gd_wA_48 w h, List.forall_mem_append.mpr ⟨fun w h => List.all_eq_true.mp gd_wA_49 w h, List.forall_mem_append.mpr ⟨fun w h => List.all_eq_true.mp gd_wA_50 w h, List.forall_mem_append.mpr ⟨fun w h => List.all_eq_true.mp gd_wA_51 w h, List.forall_mem_append.mpr ⟨fun w h => List.all_eq_true.mp gd_wA_52 w h, List.forall_mem_append.mpr ⟨fun w h => List.all_eq_true.mp gd_wA_53 w h, List.forall_mem_append.mpr ⟨fun w h => List.all_eq_true.mp gd_wA_54 w h, List.forall_mem_append.mpr ⟨fun w h => List.all_eq_true.mp gd_wA_55 w h, List.forall_mem_append.mpr ⟨fun w h => List.all_eq_true.mp gd_wA_56 w h, List.forall_mem_append.mpr ⟨fun w h => List.all_eq_true.mp gd_wsX00 w h, List.forall_mem_append.mpr ⟨fun w h => List.all_eq_true.mp gd_wsX10 w h, List.forall_mem_append.mpr ⟨fun w h => List.all_eq_true.mp gd_wsX20 w h, List.forall_mem_append.mpr ⟨fun w h => List.all_eq_true.mp gd_wsX30 w h, List.forall_mem_append.mpr ⟨fun w h => List.all_eq_true.mp gd_wsX40 w h, List.forall_mem_append.mpr ⟨fun w h => List.all_eq_true.mp gd_wsX50 w h, List.forall_mem_append.mpr ⟨fun w h => List.all_eq_true.mp gd_wsX60 w h, List.forall_mem_append.mpr ⟨fun w h => List.all_eq_true.mp gd_wsX70 w h, List.forall_mem_append.mpr ⟨fun w h => List.all_eq_true.mp gd_wsX80 w h, List.forall_mem_append.mpr ⟨fun w h => List.all_eq_true.mp gd_wsX90 w h, fun w h => List.all_eq_true.mp gd_wsX100 w h⟩⟩⟩⟩⟩⟩⟩⟩⟩⟩⟩⟩⟩⟩⟩⟩⟩⟩⟩⟩⟩⟩⟩⟩⟩⟩⟩⟩⟩⟩⟩⟩⟩⟩⟩⟩⟩⟩⟩⟩⟩⟩⟩⟩⟩⟩⟩⟩⟩⟩⟩⟩⟩⟩⟩⟩⟩⟩⟩⟩⟩⟩⟩⟩⟩⟩⟩
theorem gA {y : MethodName} {c : ByteArray} {n : Nat} {ret : Option FieldType} (h : Cond.code y c n ret ∈ wAll) : GoodIn wAll (Cond.code y c n ret :: wAll) := fun w hw => (List.mem_cons.mp hw).elim (fun e => by subst e; exact ⟨h, good_of_word (wAll_good _ h)⟩) (fun h => ⟨h, good_of_word (wAll_good w h)⟩)
