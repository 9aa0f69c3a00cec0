def wA_0 : List Cond := [Cond.fieldLink RX7 43 "CardBowl$Town" "houses" "I", Cond.code yX7_has cX7_has 2 (some .boolean), Cond.initialized RX7, Cond.methodLink RX7 61 yX7_has, Cond.instanceMethod yX7_has, Cond.selects RX7 yX7_has yX7_has, Cond.code yX7_hasPair cX7_hasPair 3 (some .boolean), Cond.fieldLink RX7 34 "CardBowl$Town" "came" "[I", Cond.code yX7_isThere cX7_isThere 3 (some .boolean), Cond.fieldLink RX7 46 "CardBowl$Town" "fresh" "I", Cond.code yX7_isNew cX7_isNew 3 (some .boolean), Cond.fieldLink RX7 37 "CardBowl$Town" "bride" "[I", Cond.code yX7_waits cX7_waits 3 (some .boolean), Cond.fieldLink RX7 15 "CardBowl$Town" "x" "[I", Cond.methodLink RX7 65 Lib.Math.abs.name, Cond.static Lib.Math.abs.name, Cond.initialized "java/lang/Math", Cond.code Lib.Math.abs.name Lib.Math.abs.code 1 (some .int), Cond.fieldLink RX7 19 "CardBowl$Town" "y" "[I", Cond.code yX7_minutes cX7_minutes 3 (some .int), Cond.fieldLink RX1 30 "CardBowl$Debts" "kinds" "[I", Cond.code yX1_kindsOf cX1_kindsOf 3 (some .int), Cond.fieldLink RX1 33 "CardBowl$Debts" "size" "I", Cond.fieldLink RX1 21 "CardBowl$Debts" "due" "[I"]
def wA_1 : List Cond := [Cond.code yX1_overdue cX1_overdue 4 (some .int), Cond.fieldLink RX1 15 "CardBowl$Debts" "creditor" "[I", Cond.code yX1_overdueTo cX1_overdueTo 5 (some .int), Cond.fieldLink RX1 27 "CardBowl$Debts" "open" "[I", Cond.fieldLink RX1 9 "CardBowl$Debts" "debtor" "[I", Cond.code yX1_nth cX1_nth 5 (some .int), Cond.fieldLink RX1 18 "CardBowl$Debts" "kind" "[I", Cond.fieldLink RX1 24 "CardBowl$Debts" "came" "[I", Cond.code yX1_add cX1_add 6 none, Cond.code yX1_move cX1_move 3 none, Cond.fieldLink RX2 24 "CardBowl$Deeds" "size" "I", Cond.code yX2_isFull cX2_isFull 1 (some .boolean), Cond.fieldLink RX2 9 "CardBowl$Deeds" "who" "[I", Cond.fieldLink RX2 15 "CardBowl$Deeds" "whom" "[I", Cond.fieldLink RX2 18 "CardBowl$Deeds" "what" "[I", Cond.fieldLink RX2 21 "CardBowl$Deeds" "day" "[I", Cond.code yX2_add cX2_add 5 none, Cond.code yX2_callsBy cX2_callsBy 4 (some .int), Cond.code yX2_callsTo cX2_callsTo 4 (some .int), Cond.fieldLink RX5 23 "CardBowl$Slot" "size" "I", Cond.fieldLink RX5 9 "CardBowl$Slot" "numbers" "[J", Cond.constantLong RX5 32 (16), Cond.code yX5_small cX5_small 2 (some .int), Cond.code yX5_hasRun cX5_hasRun 3 (some .boolean)]
def wA_2 : List Cond := [Cond.fieldLink RX0 33 "CardBowl$Code" "lines" "I", Cond.fieldLink RX0 37 "CardBowl$Code" "used" "I", Cond.code yX0_clear cX0_clear 1 none, Cond.fieldLink RX0 27 "CardBowl$Code" "tests" "[I", Cond.code yX0_put cX0_put 2 none, Cond.fieldLink RX0 30 "CardBowl$Code" "facts" "[I", Cond.code yX0_partOf cX0_partOf 2 (some .int), Cond.code yJ7_fill_53178 cJ7_fill_53178 4 none, Cond.code yJ7_fill_d0a16 cJ7_fill_d0a16 5 none, Cond.constant RJ6 265 (1431655765), Cond.constant RJ6 266 (858993459), Cond.constant RJ6 267 (252645135), Cond.code yJ6_bitCount_0f7a4 cJ6_bitCount_0f7a4 1 (some .int), Cond.constant RJ6 264 (65536), Cond.code yJ6_numberOfTrailingZeros_0f7a4 cJ6_numberOfTrailingZeros_0f7a4 2 (some .int), Cond.fieldLink RX5 15 "CardBowl$Slot" "filled" "Z", Cond.fieldLink RX5 19 "CardBowl$Slot" "width" "I", Cond.initialized RJ7, Cond.methodLink RX5 26 yJ7_fill_d0a16, Cond.static yJ7_fill_d0a16, Cond.code yX5_lay cX5_lay 3 none, Cond.code yX5_cut cX5_cut 3 (some .long), Cond.fieldLink RX7 11 "CardBowl$Town" "introducers" "I", Cond.fieldLink RX7 40 "CardBowl$Town" "told" "[I"]
def wA_3 : List Cond := [Cond.methodLink RX7 49 yJ7_fill_53178, Cond.static yJ7_fill_53178, Cond.code yX7_clear cX7_clear 1 none, Cond.methodLink RX7 55 arraycopyName, Cond.native arraycopyName, Cond.static arraycopyName, Cond.initialized "java/lang/System", Cond.fieldLink RX7 22 "CardBowl$Town" "rank" "[I", Cond.fieldLink RX7 25 "CardBowl$Town" "weekday" "[I", Cond.fieldLink RX7 28 "CardBowl$Town" "from" "[I", Cond.fieldLink RX7 31 "CardBowl$Town" "to" "[I", Cond.code yX7_copy cX7_copy 2 none, Cond.fieldLink RX0 9 "CardBowl$Code" "paying" "[I", Cond.methodLink RX0 40 arraycopyName, Cond.fieldLink RX0 15 "CardBowl$Code" "kind" "[I", Cond.fieldLink RX0 18 "CardBowl$Code" "within" "[I", Cond.fieldLink RX0 21 "CardBowl$Code" "start" "[I", Cond.fieldLink RX0 24 "CardBowl$Code" "stop" "[I", Cond.code yX0_copy cX0_copy 2 none, Cond.constantLong RX0 72 (1000000000), Cond.constantLong RX0 74 (-1000000000), Cond.fieldLink RX0 56 "CardBowl$Code" "beyond" "Z", Cond.code yX0_bounded cX0_bounded 3 (some .long), Cond.code yX0_compares cX0_compares 5 (some .boolean)]
def wA_4 : List Cond := [Cond.methodLink RX0 50 Lib.Math.min.name, Cond.static Lib.Math.min.name, Cond.code Lib.Math.min.name Lib.Math.min.code 2 (some .int), Cond.initialized RX0, Cond.methodLink RX0 60 yX0_partOf, Cond.instanceMethod yX0_partOf, Cond.selects RX0 yX0_partOf yX0_partOf, Cond.methodLink RX0 64 yX0_bounded, Cond.instanceMethod yX0_bounded, Cond.selects RX0 yX0_bounded yX0_bounded, Cond.methodLink RX0 68 yX0_compares, Cond.static yX0_compares, Cond.code yX0_holds cX0_holds 13 (some .boolean), Cond.methodLink RX0 46 yX0_holds, Cond.instanceMethod yX0_holds, Cond.selects RX0 yX0_holds yX0_holds, Cond.code yX0_lineFor cX0_lineFor 8 (some .int), Cond.methodLink RX1 37 yJ7_fill_53178, Cond.code yX1_clear cX1_clear 1 none, Cond.methodLink RX1 43 arraycopyName, Cond.code yX1_copy cX1_copy 2 none, Cond.initialized RX1, Cond.methodLink RX1 49 yX1_kindsOf, Cond.instanceMethod yX1_kindsOf]
def wA_5 : List Cond := [Cond.selects RX1 yX1_kindsOf yX1_kindsOf, Cond.methodLink RX1 53 yX1_move, Cond.instanceMethod yX1_move, Cond.selects RX1 yX1_move yX1_move, Cond.code yX1_settle cX1_settle 7 (some .int), Cond.methodLink RX2 28 arraycopyName, Cond.code yX2_copy cX2_copy 2 none, Cond.fieldLink RX6 39 "CardBowl$State" "knows" "[I", Cond.code yX6_knew cX6_knew 3 (some .int), Cond.code yX6_acquaint cX6_acquaint 3 none, Cond.initialized RX6, Cond.methodLink RX6 94 yX6_knew, Cond.instanceMethod yX6_knew, Cond.selects RX6 yX6_knew yX6_knew, Cond.fieldLink RX6 12 "CardBowl$State" "town" "LCardBowl$Town;", Cond.fieldLink RX6 69 "CardBowl$State" "day" "I", Cond.methodLink RX6 98 yX7_isNew, Cond.instanceMethod yX7_isNew, Cond.selects RX7 yX7_isNew yX7_isNew, Cond.initialized RJ6, Cond.methodLink RX6 101 yJ6_bitCount_0f7a4, Cond.static yJ6_bitCount_0f7a4, Cond.fieldLink RX6 107 "CardBowl$Town" "introducers" "I", Cond.code yX6_isOpenTo cX6_isOpenTo 3 (some .boolean)]
def wA_6 : List Cond := [Cond.methodLink RX6 81 yX7_isThere, Cond.instanceMethod yX7_isThere, Cond.selects RX7 yX7_isThere yX7_isThere, Cond.methodLink RX6 85 yX6_isOpenTo, Cond.instanceMethod yX6_isOpenTo, Cond.selects RX6 yX6_isOpenTo yX6_isOpenTo, Cond.fieldLink RX6 88 "CardBowl$Town" "weekday" "[I", Cond.methodLink RX6 91 yX7_waits, Cond.instanceMethod yX7_waits, Cond.selects RX7 yX7_waits yX7_waits, Cond.code yX6_barrier cX6_barrier 4 (some .int), Cond.methodLink RX6 154 yX1_kindsOf, Cond.code yX6_isOwed cX6_isOwed 4 (some .boolean), Cond.methodLink RX6 122 yX1_settle, Cond.instanceMethod yX1_settle, Cond.selects RX1 yX1_settle yX1_settle, Cond.fieldLink RX6 126 "CardBowl$Town" "rank" "[I", Cond.fieldLink RX6 129 "CardBowl$Debts" "open" "[I", Cond.methodLink RX6 132 yX0_lineFor, Cond.instanceMethod yX0_lineFor, Cond.selects RX0 yX0_lineFor yX0_lineFor, Cond.fieldLink RX6 136 "CardBowl$Code" "kind" "[I", Cond.methodLink RX6 139 yX6_isOwed, Cond.static yX6_isOwed]
def wA_7 : List Cond := [Cond.fieldLink RX6 143 "CardBowl$Code" "within" "[I", Cond.methodLink RX6 146 Lib.Math.min.name, Cond.methodLink RX6 151 yX1_add, Cond.instanceMethod yX1_add, Cond.selects RX1 yX1_add yX1_add, Cond.code yX6_deal cX6_deal 10 (some .int), Cond.fieldLink RX6 28 "CardBowl$State" "debts" "LCardBowl$Debts;", Cond.fieldLink RX6 21 "CardBowl$State" "code" "LCardBowl$Code;", Cond.methodLink RX6 110 yX6_deal, Cond.instanceMethod yX6_deal, Cond.selects RX6 yX6_deal yX6_deal, Cond.fieldLink RX6 72 "CardBowl$State" "paid" "I", Cond.fieldLink RX6 35 "CardBowl$State" "deeds" "LCardBowl$Deeds;", Cond.initialized RX2, Cond.methodLink RX6 114 yX2_add, Cond.instanceMethod yX2_add, Cond.selects RX2 yX2_add yX2_add, Cond.methodLink RX6 118 yX6_acquaint, Cond.static yX6_acquaint, Cond.code yX6_act cX6_act 5 (some .int), Cond.code yX6_chance cX6_chance 4 (some .int), Cond.code yX6_wouldMake cX6_wouldMake 5 (some .int), Cond.methodLink RX6 53 yX1_clear, Cond.instanceMethod yX1_clear]
def wA_8 : List Cond := [Cond.selects RX1 yX1_clear yX1_clear, Cond.fieldLink RX6 60 "CardBowl$Town" "told" "[I", Cond.methodLink RX6 63 arraycopyName, Cond.fieldLink RX6 56 "CardBowl$Deeds" "size" "I", Cond.fieldLink RX6 157 "CardBowl$Deeds" "who" "[I", Cond.fieldLink RX6 160 "CardBowl$Deeds" "whom" "[I", Cond.fieldLink RX6 163 "CardBowl$Deeds" "what" "[I", Cond.fieldLink RX6 166 "CardBowl$Deeds" "day" "[I", Cond.code yX6_replay cX6_replay 8 none, Cond.code yX6_hanging cX6_hanging 8 (some .int), Cond.methodLink RX6 168 yX6_hanging, Cond.instanceMethod yX6_hanging, Cond.selects RX6 yX6_hanging yX6_hanging, Cond.code yX6_holdsTogether cX6_holdsTogether 3 (some .boolean), Cond.methodLink RX6 171 yX6_holdsTogether, Cond.instanceMethod yX6_holdsTogether, Cond.selects RX6 yX6_holdsTogether yX6_holdsTogether, Cond.code yX6_canDrop cX6_canDrop 3 (some .boolean), Cond.fieldLink RX6 43 "CardBowl$State" "follows" "[I", Cond.code yX6_followCalls cX6_followCalls 3 none, Cond.code yX6_ringBits cX6_ringBits 4 (some .int), Cond.methodLink RX6 46 yX7_copy, Cond.instanceMethod yX7_copy, Cond.selects RX7 yX7_copy yX7_copy]
def wA_9 : List Cond := [Cond.methodLink RX6 50 yX0_copy, Cond.instanceMethod yX0_copy, Cond.selects RX0 yX0_copy yX0_copy, Cond.code yX6_begin cX6_begin 3 none, Cond.methodLink RX6 75 yX1_copy, Cond.instanceMethod yX1_copy, Cond.selects RX1 yX1_copy yX1_copy, Cond.methodLink RX6 78 yX2_copy, Cond.instanceMethod yX2_copy, Cond.selects RX2 yX2_copy yX2_copy, Cond.code yX6_copy cX6_copy 2 none, Cond.fieldLink RX4 67 "CardBowl$State" "debts" "LCardBowl$Debts;", Cond.methodLink RX4 71 yX1_kindsOf, Cond.code yX4_isByCall cX4_isByCall 3 (some .boolean), Cond.initialized RX4, Cond.methodLink RX4 108 yX4_isByCall, Cond.static yX4_isByCall, Cond.fieldLink RX4 56 "CardBowl$State" "town" "LCardBowl$Town;", Cond.fieldLink RX4 118 "CardBowl$Town" "weekday" "[I", Cond.code yX4_isAtHome cX4_isAtHome 4 (some .boolean), Cond.fieldLink RX4 28 "CardBowl$Rounds" "opens" "[I", Cond.fieldLink RX4 112 "CardBowl$Town" "from" "[I", Cond.fieldLink RX4 31 "CardBowl$Rounds" "closes" "[I", Cond.fieldLink RX4 115 "CardBowl$Town" "to" "[I"]
def wA_10 : List Cond := [Cond.fieldLink RX4 34 "CardBowl$Rounds" "stays" "[I", Cond.code yX4_lookAt cX4_lookAt 5 none, Cond.fieldLink RX4 53 "CardBowl$Rounds" "spots" "I", Cond.fieldLink RX4 22 "CardBowl$Rounds" "spot" "[I", Cond.methodLink RX4 101 yX4_lookAt, Cond.instanceMethod yX4_lookAt, Cond.selects RX4 yX4_lookAt yX4_lookAt, Cond.fieldLink RX4 37 "CardBowl$Rounds" "apart" "[I", Cond.methodLink RX4 105 yX7_minutes, Cond.instanceMethod yX7_minutes, Cond.selects RX7 yX7_minutes yX7_minutes, Cond.code yX4_lookAtSpots cX4_lookAtSpots 6 none, Cond.fieldLink RX4 15 "CardBowl$Rounds" "owner" "I", Cond.methodLink RX4 120 yX4_isAtHome, Cond.static yX4_isAtHome, Cond.code yX4_openSpots cX4_openSpots 5 (some .int), Cond.methodLink RX4 124 Lib.Math.max.name, Cond.static Lib.Math.max.name, Cond.code Lib.Math.max.name Lib.Math.max.code 2 (some .int), Cond.code yX4_seen cX4_seen 4 (some .int), Cond.fieldLink RX4 43 "CardBowl$Rounds" "soonest" "[I", Cond.fieldLink RX4 40 "CardBowl$Rounds" "minute" "[I", Cond.methodLink RX4 136 Lib.Math.min.name, Cond.code yX4_arrival cX4_arrival 7 (some .int)]
def wA_11 : List Cond := [Cond.methodLink RX4 129 yX4_arrival, Cond.instanceMethod yX4_arrival, Cond.selects RX4 yX4_arrival yX4_arrival, Cond.methodLink RX4 133 yX4_seen, Cond.instanceMethod yX4_seen, Cond.selects RX4 yX4_seen yX4_seen, Cond.code yX4_reckonMinutes cX4_reckonMinutes 8 none, Cond.code yX4_worthOf cX4_worthOf 3 (some .int), Cond.fieldLink RX4 139 "CardBowl$Rounds" "bestWorth" "I", Cond.fieldLink RX4 92 "CardBowl$Rounds" "bestOver" "I", Cond.fieldLink RX4 46 "CardBowl$Rounds" "sums" "[I", Cond.methodLink RX4 142 yJ6_numberOfTrailingZeros_0f7a4, Cond.static yJ6_numberOfTrailingZeros_0f7a4, Cond.methodLink RX4 148 yX4_worthOf, Cond.static yX4_worthOf, Cond.code yX4_bestSet cX4_bestSet 8 (some .int), Cond.code yX4_latest cX4_latest 8 (some .int), Cond.methodLink RX4 151 yX4_latest, Cond.instanceMethod yX4_latest, Cond.selects RX4 yX4_latest yX4_latest, Cond.code yX4_reckonLatest cX4_reckonLatest 5 none, Cond.fieldLink RX4 154 "CardBowl$Rounds" "length" "I", Cond.fieldLink RX4 11 "CardBowl$Rounds" "order" "[I", Cond.code yX4_putInOrder cX4_putInOrder 10 none]
def wA_12 : List Cond := [Cond.fieldLink RX4 49 "CardBowl$Rounds" "planned" "Z", Cond.fieldLink RX4 19 "CardBowl$Rounds" "weekday" "I", Cond.fieldLink RX4 62 "CardBowl$Town" "houses" "I", Cond.methodLink RX4 77 yX4_lookAtSpots, Cond.instanceMethod yX4_lookAtSpots, Cond.selects RX4 yX4_lookAtSpots yX4_lookAtSpots, Cond.methodLink RX4 81 yX4_openSpots, Cond.instanceMethod yX4_openSpots, Cond.selects RX4 yX4_openSpots yX4_openSpots, Cond.methodLink RX4 85 yX4_reckonMinutes, Cond.instanceMethod yX4_reckonMinutes, Cond.selects RX4 yX4_reckonMinutes yX4_reckonMinutes, Cond.methodLink RX4 89 yX4_bestSet, Cond.instanceMethod yX4_bestSet, Cond.selects RX4 yX4_bestSet yX4_bestSet, Cond.methodLink RX4 95 yX4_reckonLatest, Cond.instanceMethod yX4_reckonLatest, Cond.selects RX4 yX4_reckonLatest yX4_reckonLatest, Cond.methodLink RX4 98 yX4_putInOrder, Cond.instanceMethod yX4_putInOrder, Cond.selects RX4 yX4_putInOrder yX4_putInOrder, Cond.code yX4_plan cX4_plan 5 none, Cond.fieldLink RX4 157 "CardBowl$Slot" "size" "I", Cond.initialized RX5]
def wA_13 : List Cond := [Cond.methodLink RX4 162 yX5_small, Cond.instanceMethod yX5_small, Cond.selects RX5 yX5_small yX5_small, Cond.methodLink RX4 165 yX7_has, Cond.code yX4_canWalk cX4_canWalk 10 (some .boolean), Cond.methodLink RX4 181 yX1_nth, Cond.instanceMethod yX1_nth, Cond.selects RX1 yX1_nth yX1_nth, Cond.fieldLink RX4 184 "CardBowl$Debts" "creditor" "[I", Cond.fieldLink RX4 25 "CardBowl$Rounds" "deadline" "[I", Cond.fieldLink RX4 187 "CardBowl$Debts" "due" "[I", Cond.code yX4_gatherDeadlines cX4_gatherDeadlines 7 none, Cond.code yX4_inTime cX4_inTime 4 (some .int), Cond.code yX4_addDay cX4_addDay 6 none, Cond.methodLink RX4 169 yX4_gatherDeadlines, Cond.instanceMethod yX4_gatherDeadlines, Cond.selects RX4 yX4_gatherDeadlines yX4_gatherDeadlines, Cond.fieldLink RX4 172 "CardBowl$State" "day" "I", Cond.methodLink RX4 175 yX4_inTime, Cond.instanceMethod yX4_inTime, Cond.selects RX4 yX4_inTime yX4_inTime, Cond.methodLink RX4 178 yX4_addDay, Cond.instanceMethod yX4_addDay, Cond.selects RX4 yX4_addDay yX4_addDay]
def wA_14 : List Cond := [Cond.code yX4_fewestDays cX4_fewestDays 5 (some .int), Cond.code yX4_canBeSeen cX4_canBeSeen 6 (some .boolean), Cond.methodLink RX4 190 yX4_canBeSeen, Cond.instanceMethod yX4_canBeSeen, Cond.selects RX4 yX4_canBeSeen yX4_canBeSeen, Cond.code yX4_lostBits cX4_lostBits 6 (some .int), Cond.fieldLink RX8 54 "CardBowl$State" "knows" "[I", Cond.fieldLink RX8 64 "CardBowl$State" "town" "LCardBowl$Town;", Cond.fieldLink RX8 68 "CardBowl$Town" "houses" "I", Cond.fieldLink RX8 73 "CardBowl$State" "day" "I", Cond.methodLink RX8 76 yX7_isThere, Cond.methodLink RX8 80 yJ6_bitCount_0f7a4, Cond.fieldLink RX8 86 "CardBowl$Town" "introducers" "I", Cond.code yX8_everyoneToKnow cX8_everyoneToKnow 7 (some .int), Cond.fieldLink RX8 89 "CardBowl$Ways" "between" "I", Cond.fieldLink RX8 22 "CardBowl$Ways" "house" "[I", Cond.methodLink RX8 44 yX6_knew, Cond.code yX8_linksOf cX8_linksOf 5 (some .int), Cond.fieldLink RX8 25 "CardBowl$Ways" "friends" "[I", Cond.fieldLink RX8 28 "CardBowl$Ways" "links" "[I", Cond.initialized RX8, Cond.methodLink RX8 92 yX8_linksOf, Cond.instanceMethod yX8_linksOf, Cond.selects RX8 yX8_linksOf yX8_linksOf]
def wA_15 : List Cond := [Cond.code yX8_gather cX8_gather 5 none, Cond.fieldLink RX8 41 "CardBowl$Ways" "length" "I", Cond.fieldLink RX8 11 "CardBowl$Ways" "calls" "[I", Cond.fieldLink RX8 34 "CardBowl$Ways" "latest" "[I", Cond.code yX8_tell cX8_tell 6 none, Cond.fieldLink RX8 31 "CardBowl$Ways" "queue" "[I", Cond.methodLink RX8 95 yX8_tell, Cond.instanceMethod yX8_tell, Cond.selects RX8 yX8_tell yX8_tell, Cond.code yX8_search cX8_search 13 none, Cond.fieldLink RX8 37 "CardBowl$Ways" "sought" "Z", Cond.fieldLink RX8 15 "CardBowl$Ways" "caller" "I", Cond.fieldLink RX8 19 "CardBowl$Ways" "goal" "I", Cond.methodLink RX8 50 yX8_everyoneToKnow, Cond.static yX8_everyoneToKnow, Cond.methodLink RX8 57 yX8_gather, Cond.instanceMethod yX8_gather, Cond.selects RX8 yX8_gather yX8_gather, Cond.methodLink RX8 61 yX8_search, Cond.instanceMethod yX8_search, Cond.selects RX8 yX8_search yX8_search, Cond.code yX8_seek cX8_seek 5 none, Cond.code yX9_isSlot cX9_isSlot 1 (some .boolean), Cond.code yX9_isImage cX9_isImage 1 (some .boolean)]
def wA_16 : List Cond := [Cond.fieldLink RX9 40 "CardBowl" "rounds" "LCardBowl$Rounds;", Cond.fieldLink RX9 330 "CardBowl$Rounds" "planned" "Z", Cond.fieldLink RX9 47 "CardBowl" "ways" "LCardBowl$Ways;", Cond.fieldLink RX9 333 "CardBowl$Ways" "sought" "Z", Cond.code yX9_forget cX9_forget 1 none, Cond.fieldLink RX9 23 "CardBowl" "state" "LCardBowl$State;", Cond.fieldLink RX9 93 "CardBowl$State" "town" "LCardBowl$Town;", Cond.methodLink RX9 126 yX7_hasPair, Cond.instanceMethod yX7_hasPair, Cond.selects RX7 yX7_hasPair yX7_hasPair, Cond.code yX9_isDeed cX9_isDeed 4 (some .boolean), Cond.methodLink RX9 158 yX7_has, Cond.fieldLink RX9 102 "CardBowl$State" "day" "I", Cond.code yX9_isOuting cX9_isOuting 3 (some .boolean), Cond.fieldLink RX9 33 "CardBowl" "slots" "[LCardBowl$Slot;", Cond.fieldLink RX9 138 "CardBowl$Slot" "filled" "Z", Cond.code yX9_filledSlots cX9_filledSlots 3 (some .int), Cond.fieldLink RX9 63 "CardBowl" "tapeSize" "I", Cond.fieldLink RX9 9 "CardBowl" "tape" "[B", Cond.code yX9_feedNumber cX9_feedNumber 3 none, Cond.initialized RX9, Cond.methodLink RX9 67 yX9_feedNumber, Cond.instanceMethod yX9_feedNumber, Cond.selects RX9 yX9_feedNumber yX9_feedNumber]
def wA_17 : List Cond := [Cond.code yX9_feed cX9_feed 6 (some .int), Cond.code yX9_end cX9_end 2 (some .int), Cond.fieldLink RX9 16 "CardBowl" "reader" "LCardBowl$Reader;", Cond.fieldLink RX9 99 "CardBowl$Reader" "place" "I", Cond.fieldLink RX9 75 "CardBowl$Reader" "fault" "I", Cond.code yX9_fault cX9_fault 2 (some .int), Cond.methodLink RX9 90 yX9_forget, Cond.instanceMethod yX9_forget, Cond.selects RX9 yX9_forget yX9_forget, Cond.code yX9_days cX9_days 2 (some .int), Cond.methodLink RX9 105 yX9_isDeed, Cond.instanceMethod yX9_isDeed, Cond.selects RX9 yX9_isDeed yX9_isDeed, Cond.methodLink RX9 109 yX6_barrier, Cond.instanceMethod yX6_barrier, Cond.selects RX6 yX6_barrier yX6_barrier, Cond.code yX9_bars cX9_bars 4 (some .int), Cond.fieldLink RX9 113 "CardBowl$State" "deeds" "LCardBowl$Deeds;", Cond.methodLink RX9 117 yX2_isFull, Cond.instanceMethod yX2_isFull, Cond.selects RX2 yX2_isFull yX2_isFull, Cond.methodLink RX9 123 yX6_act, Cond.instanceMethod yX6_act, Cond.selects RX6 yX6_act yX6_act]
def wA_18 : List Cond := [Cond.code yX9_does cX9_does 4 (some .int), Cond.methodLink RX9 130 yX6_chance, Cond.instanceMethod yX6_chance, Cond.selects RX6 yX6_chance yX6_chance, Cond.code yX9_meet cX9_meet 3 (some .int), Cond.methodLink RX9 134 yX9_isSlot, Cond.static yX9_isSlot, Cond.fieldLink RX9 142 "CardBowl$Slot" "size" "I", Cond.methodLink RX9 145 yX5_small, Cond.methodLink RX9 152 yX9_does, Cond.instanceMethod yX9_does, Cond.selects RX9 yX9_does yX9_does, Cond.methodLink RX9 149 yX9_meet, Cond.instanceMethod yX9_meet, Cond.selects RX9 yX9_meet yX9_meet, Cond.code yX9_done cX9_done 9 (some .int), Cond.methodLink RX9 155 yX6_knew, Cond.code yX9_known cX9_known 3 (some .int), Cond.fieldLink RX9 161 "CardBowl$State" "debts" "LCardBowl$Debts;", Cond.fieldLink RX9 164 "CardBowl$Debts" "open" "[I", Cond.code yX9_debts cX9_debts 2 (some .int), Cond.methodLink RX9 167 yX1_nth, Cond.fieldLink RX9 170 "CardBowl$Debts" "creditor" "[I", Cond.fieldLink RX9 173 "CardBowl$Debts" "kind" "[I"]
def wA_19 : List Cond := [Cond.fieldLink RX9 176 "CardBowl$Debts" "due" "[I", Cond.fieldLink RX9 179 "CardBowl$Debts" "came" "[I", Cond.code yX9_debt cX9_debt 5 (some .int), Cond.methodLink RX9 182 yX1_overdueTo, Cond.instanceMethod yX1_overdueTo, Cond.selects RX1 yX1_overdueTo yX1_overdueTo, Cond.code yX9_slights cX9_slights 2 (some .int), Cond.fieldLink RX9 94 "CardBowl$Town" "houses" "I", Cond.fieldLink RX9 185 "CardBowl$Town" "rank" "[I", Cond.code yX9_first cX9_first 6 (some .int), Cond.methodLink RX9 188 yX6_wouldMake, Cond.instanceMethod yX6_wouldMake, Cond.selects RX6 yX6_wouldMake yX6_wouldMake, Cond.code yX9_owes cX9_owes 4 (some .int), Cond.methodLink RX9 191 yX9_isOuting, Cond.instanceMethod yX9_isOuting, Cond.selects RX9 yX9_isOuting yX9_isOuting, Cond.methodLink RX9 194 yX4_plan, Cond.instanceMethod yX4_plan, Cond.selects RX4 yX4_plan yX4_plan, Cond.fieldLink RX9 198 "CardBowl$Rounds" "bestWorth" "I", Cond.code yX9_worth cX9_worth 3 (some .int), Cond.fieldLink RX9 201 "CardBowl$Rounds" "length" "I", Cond.fieldLink RX9 204 "CardBowl$Rounds" "order" "[I"]
def wA_20 : List Cond := [Cond.code yX9_round cX9_round 4 (some .int), Cond.fieldLink RX9 207 "CardBowl$Rounds" "bestOver" "I", Cond.code yX9_over cX9_over 3 (some .int), Cond.methodLink RX9 210 yX4_canWalk, Cond.instanceMethod yX4_canWalk, Cond.selects RX4 yX4_canWalk yX4_canWalk, Cond.code yX9_may cX9_may 5 (some .int), Cond.methodLink RX9 214 yX4_fewestDays, Cond.instanceMethod yX4_fewestDays, Cond.selects RX4 yX4_fewestDays yX4_fewestDays, Cond.code yX9_fewest cX9_fewest 2 (some .int), Cond.methodLink RX9 218 yX4_lostBits, Cond.instanceMethod yX4_lostBits, Cond.selects RX4 yX4_lostBits yX4_lostBits, Cond.code yX9_lost cX9_lost 2 (some .int), Cond.methodLink RX9 221 yX8_seek, Cond.instanceMethod yX8_seek, Cond.selects RX8 yX8_seek yX8_seek, Cond.fieldLink RX9 224 "CardBowl$Ways" "length" "I", Cond.code yX9_soon cX9_soon 3 (some .int), Cond.fieldLink RX9 225 "CardBowl$Ways" "calls" "[I", Cond.code yX9_path cX9_path 4 (some .int), Cond.methodLink RX9 228 yX6_hanging, Cond.code yX9_reach cX9_reach 2 (some .int)]
def wA_21 : List Cond := [Cond.methodLink RX9 231 yX6_canDrop, Cond.instanceMethod yX6_canDrop, Cond.selects RX6 yX6_canDrop yX6_canDrop, Cond.code yX9_drop cX9_drop 5 (some .int), Cond.methodLink RX9 234 yX6_holdsTogether, Cond.code yX9_tie cX9_tie 3 (some .int), Cond.methodLink RX9 237 yX6_followCalls, Cond.instanceMethod yX6_followCalls, Cond.selects RX6 yX6_followCalls yX6_followCalls, Cond.methodLink RX9 240 yX6_ringBits, Cond.instanceMethod yX6_ringBits, Cond.selects RX6 yX6_ringBits yX6_ringBits, Cond.methodLink RX9 243 yJ6_numberOfTrailingZeros_0f7a4, Cond.code yX9_rings cX9_rings 4 (some .int), Cond.code yX9_ring cX9_ring 2 (some .int), Cond.constant RX9 248 (-2000000000), Cond.fieldLink RX9 249 "CardBowl$Town" "x" "[I", Cond.fieldLink RX9 252 "CardBowl$Town" "y" "[I", Cond.fieldLink RX9 255 "CardBowl$Town" "weekday" "[I", Cond.fieldLink RX9 258 "CardBowl$Town" "from" "[I", Cond.fieldLink RX9 261 "CardBowl$Town" "to" "[I", Cond.fieldLink RX9 264 "CardBowl$Town" "came" "[I", Cond.methodLink RX9 265 yX2_callsBy, Cond.instanceMethod yX2_callsBy]
def wA_22 : List Cond := [Cond.selects RX2 yX2_callsBy yX2_callsBy, Cond.methodLink RX9 268 yX2_callsTo, Cond.instanceMethod yX2_callsTo, Cond.selects RX2 yX2_callsTo yX2_callsTo, Cond.code yX9_house cX9_house 3 (some .int), Cond.fieldLink RX9 274 "CardBowl$State" "code" "LCardBowl$Code;", Cond.fieldLink RX9 280 "CardBowl$Code" "lines" "I", Cond.fieldLink RX9 279 "CardBowl$Debts" "size" "I", Cond.methodLink RX9 285 yX1_overdue, Cond.instanceMethod yX1_overdue, Cond.selects RX1 yX1_overdue yX1_overdue, Cond.fieldLink RX9 288 "CardBowl$Deeds" "size" "I", Cond.fieldLink RX9 289 "CardBowl$State" "paid" "I", Cond.fieldLink RX9 292 "CardBowl$Town" "introducers" "I", Cond.fieldLink RX9 295 "CardBowl$Town" "fresh" "I", Cond.methodLink RX9 298 yX9_filledSlots, Cond.instanceMethod yX9_filledSlots, Cond.selects RX9 yX9_filledSlots yX9_filledSlots, Cond.code yX9_count cX9_count 2 (some .int), Cond.methodLink RX9 306 yX5_lay, Cond.instanceMethod yX5_lay, Cond.selects RX5 yX5_lay yX5_lay, Cond.code yX9_row cX9_row 4 (some .int), Cond.fieldLink RX9 310 "CardBowl$Slot" "numbers" "[J"]
def wA_23 : List Cond := [Cond.methodLink RX9 314 yX5_cut, Cond.instanceMethod yX5_cut, Cond.selects RX5 yX5_cut yX5_cut, Cond.code yX9_write cX9_write 6 (some .int), Cond.fieldLink RX9 318 "CardBowl$Slot" "width" "I", Cond.methodLink RX9 321 yX5_hasRun, Cond.instanceMethod yX5_hasRun, Cond.selects RX5 yX5_hasRun yX5_hasRun, Cond.methodLink RX9 324 arraycopyName, Cond.code yX9_paste cX9_paste 8 (some .int), Cond.fieldLink RJ0 38 "java/lang/String" "COMPACT_STRINGS" "Z", Cond.fieldLink RJ0 15 "java/lang/String" "coder" "B", Cond.code yJ0_coder_7d493 cJ0_coder_7d493 1 (some .byte), Cond.code yJ0_isLatin1_aae02 cJ0_isLatin1_aae02 1 (some .boolean), Cond.fieldLink RJ0 9 "java/lang/String" "value" "[B", Cond.initialized RJ0, Cond.methodLink RJ0 335 yJ0_coder_7d493, Cond.instanceMethod yJ0_coder_7d493, Cond.selects RJ0 yJ0_coder_7d493 yJ0_coder_7d493, Cond.code yJ0_length_8abf5 cJ0_length_8abf5 1 (some .int), Cond.code yJ3_checkIndex_8e157 cJ3_checkIndex_8e157 3 (some .int), Cond.fieldLink RJ0 1053 "jdk/internal/util/Preconditions" "SIOOBE_FORMATTER" "Ljava/util/function/BiFunction;", Cond.initialized RJ3, Cond.methodLink RJ0 1059 yJ3_checkIndex_8e157]
def wA_24 : List Cond := [Cond.static yJ3_checkIndex_8e157, Cond.code yJ0_checkIndex_df160 cJ0_checkIndex_df160 2 none, Cond.methodLink RJ1 9 yJ0_checkIndex_df160, Cond.static yJ0_checkIndex_df160, Cond.code yJ1_charAt_3b067 cJ1_charAt_3b067 2 (some .char), Cond.methodLink RJ0 492 yJ0_isLatin1_aae02, Cond.instanceMethod yJ0_isLatin1_aae02, Cond.selects RJ0 yJ0_isLatin1_aae02 yJ0_isLatin1_aae02, Cond.initialized RJ1, Cond.methodLink RJ0 495 yJ1_charAt_3b067, Cond.static yJ1_charAt_3b067, Cond.code yJ0_charAt_5068e cJ0_charAt_5068e 2 (some .char), Cond.fieldLink RX3 55 "CardBowl$Reader" "kind" "I", Cond.methodLink RX3 189 yJ0_length_8abf5, Cond.instanceMethod yJ0_length_8abf5, Cond.selects RJ0 yJ0_length_8abf5 yJ0_length_8abf5, Cond.fieldLink RX3 179 "CardBowl$Reader" "begin" "I", Cond.fieldLink RX3 42 "CardBowl$Reader" "next" "I", Cond.methodLink RX3 195 yJ0_charAt_5068e, Cond.instanceMethod yJ0_charAt_5068e, Cond.selects RJ0 yJ0_charAt_5068e yJ0_charAt_5068e, Cond.fieldLink RX3 29 "CardBowl$Reader" "text" "[B", Cond.code yX3_among cX3_among 7 (some .int), Cond.fieldLink RX3 45 "CardBowl$Reader" "fault" "I"]
def wA_25 : List Cond := [Cond.fieldLink RX3 25 "CardBowl$Reader" "place" "I", Cond.code yX3_refuse cX3_refuse 2 none, Cond.fieldLink RX3 39 "CardBowl$Reader" "size" "I", Cond.code yX3_takeWord cX3_takeWord 1 none, Cond.fieldLink RX3 136 "CardBowl$Reader" "value" "I", Cond.constant RX3 188 (1000000), Cond.methodLink RX3 33 Lib.Math.min.name, Cond.code yX3_takeNumber cX3_takeNumber 1 none, Cond.initialized RX3, Cond.methodLink RX3 182 yX3_takeWord, Cond.instanceMethod yX3_takeWord, Cond.selects RX3 yX3_takeWord yX3_takeWord, Cond.methodLink RX3 185 yX3_takeNumber, Cond.instanceMethod yX3_takeNumber, Cond.selects RX3 yX3_takeNumber yX3_takeNumber, Cond.code yX3_advance cX3_advance 1 none, Cond.methodLink RX3 52 yX3_advance, Cond.instanceMethod yX3_advance, Cond.selects RX3 yX3_advance yX3_advance, Cond.methodLink RX3 89 yX3_refuse, Cond.instanceMethod yX3_refuse, Cond.selects RX3 yX3_refuse yX3_refuse, Cond.code yX3_number cX3_number 4 (some .int), Cond.methodLink RX3 60 yX3_among]
def wA_26 : List Cond := [Cond.instanceMethod yX3_among, Cond.selects RX3 yX3_among yX3_among, Cond.code yX3_choice cX3_choice 3 (some .int), Cond.code yX3_takes cX3_takes 2 (some .boolean), Cond.fieldLink RX3 21 "CardBowl$Reader" "code" "LCardBowl$Code;", Cond.methodLink RX3 97 yX3_choice, Cond.instanceMethod yX3_choice, Cond.selects RX3 yX3_choice yX3_choice, Cond.methodLink RX3 80 yX3_number, Cond.instanceMethod yX3_number, Cond.selects RX3 yX3_number yX3_number, Cond.methodLink RX3 174 yX0_put, Cond.instanceMethod yX0_put, Cond.selects RX0 yX0_put yX0_put, Cond.code yX3_readTests cX3_readTests 7 none, Cond.fieldLink RX3 142 "CardBowl$Code" "lines" "I", Cond.fieldLink RX3 147 "CardBowl$Code" "paying" "[I", Cond.fieldLink RX3 150 "CardBowl$Code" "kind" "[I", Cond.fieldLink RX3 156 "CardBowl$Code" "within" "[I", Cond.fieldLink RX3 158 "CardBowl$Code" "start" "[I", Cond.fieldLink RX3 161 "CardBowl$Code" "used" "I", Cond.methodLink RX3 128 yX3_takes, Cond.instanceMethod yX3_takes, Cond.selects RX3 yX3_takes yX3_takes]
def wA_27 : List Cond := [Cond.methodLink RX3 166 yX3_readTests, Cond.instanceMethod yX3_readTests, Cond.selects RX3 yX3_readTests yX3_readTests, Cond.fieldLink RX3 169 "CardBowl$Code" "stop" "[I", Cond.code yX3_readOwes cX3_readOwes 3 none, Cond.fieldLink RX3 12 "CardBowl$Reader" "town" "LCardBowl$Town;", Cond.fieldLink RX3 92 "CardBowl$Town" "houses" "I", Cond.fieldLink RX3 139 "CardBowl$Town" "told" "[I", Cond.code yX3_readKnow cX3_readKnow 3 none, Cond.fieldLink RX3 100 "CardBowl$Town" "x" "[I", Cond.fieldLink RX3 104 "CardBowl$Town" "y" "[I", Cond.fieldLink RX3 109 "CardBowl$Town" "rank" "[I", Cond.fieldLink RX3 113 "CardBowl$Town" "weekday" "[I", Cond.fieldLink RX3 118 "CardBowl$Town" "from" "[I", Cond.fieldLink RX3 121 "CardBowl$Town" "to" "[I", Cond.fieldLink RX3 124 "CardBowl$Town" "came" "[I", Cond.fieldLink RX3 132 "CardBowl$Town" "bride" "[I", Cond.code yX3_readHouse cX3_readHouse 2 none, Cond.methodLink RX3 74 yX3_readHouse, Cond.instanceMethod yX3_readHouse, Cond.selects RX3 yX3_readHouse yX3_readHouse, Cond.methodLink RX3 77 yX3_readKnow, Cond.instanceMethod yX3_readKnow, Cond.selects RX3 yX3_readKnow yX3_readKnow]
def wA_28 : List Cond := [Cond.fieldLink RX3 83 "CardBowl$Town" "fresh" "I", Cond.fieldLink RX3 86 "CardBowl$Town" "introducers" "I", Cond.code yX3_readOther cX3_readOther 2 none, Cond.code yX3_closeLine cX3_closeLine 1 none, Cond.methodLink RX3 48 yX7_clear, Cond.instanceMethod yX7_clear, Cond.selects RX7 yX7_clear yX7_clear, Cond.methodLink RX3 51 yX0_clear, Cond.instanceMethod yX0_clear, Cond.selects RX0 yX0_clear yX0_clear, Cond.methodLink RX3 68 yX3_readOther, Cond.instanceMethod yX3_readOther, Cond.selects RX3 yX3_readOther yX3_readOther, Cond.methodLink RX3 64 yX3_readOwes, Cond.instanceMethod yX3_readOwes, Cond.selects RX3 yX3_readOwes yX3_readOwes, Cond.methodLink RX3 71 yX3_closeLine, Cond.instanceMethod yX3_closeLine, Cond.selects RX3 yX3_closeLine yX3_closeLine, Cond.code yX3_read cX3_read 5 none, Cond.methodLink RX9 71 yX3_read, Cond.instanceMethod yX3_read, Cond.selects RX3 yX3_read yX3_read, Cond.fieldLink RX9 78 "CardBowl$Reader" "town" "LCardBowl$Town;"]
def wA_29 : List Cond := [Cond.fieldLink RX9 82 "CardBowl$Reader" "code" "LCardBowl$Code;", Cond.methodLink RX9 86 yX6_begin, Cond.instanceMethod yX6_begin, Cond.selects RX6 yX6_begin yX6_begin, Cond.code yX9_town cX9_town 1 (some .int)]
def wAll : List Cond := wA_0 ++ (wA_1 ++ (wA_2 ++ (wA_3 ++ (wA_4 ++ (wA_5 ++ (wA_6 ++ (wA_7 ++ (wA_8 ++ (wA_9 ++ (wA_10 ++ (wA_11 ++ (wA_12 ++ (wA_13 ++ (wA_14 ++ (wA_15 ++ (wA_16 ++ (wA_17 ++ (wA_18 ++ (wA_19 ++ (wA_20 ++ (wA_21 ++ (wA_22 ++ (wA_23 ++ (wA_24 ++ (wA_25 ++ (wA_26 ++ (wA_27 ++ (wA_28 ++ (wA_29 ++ (wsX00 ++ (wsX10 ++ (wsX20 ++ (wsX30 ++ (wsX40 ++ (wsX50 ++ (wsX60 ++ (wsX70 ++ (wsX80 ++ (wsX90 ++ (wsX100))))))))))))))))))))))))))))))))))))))))
theorem inA_wA_0 : ∀ w ∈ wA_0, w ∈ wAll := fun w h => List.mem_append_left _ h
theorem inA_wA_1 : ∀ w ∈ wA_1, w ∈ wAll := fun w h => List.mem_append_right _ (List.mem_append_left _ h)
theorem inA_wA_2 : ∀ w ∈ wA_2, w ∈ wAll := fun w h => List.mem_append_right _ (List.mem_append_right _ (List.mem_append_left _ h))
theorem inA_wA_3 : ∀ w ∈ wA_3, w ∈ wAll := fun w h => List.mem_append_right _ (List.mem_append_right _ (List.mem_append_right _ (List.mem_append_left _ h)))
theorem inA_wA_4 : ∀ w ∈ wA_4, w ∈ wAll := fun w h => List.mem_append_right _ (List.mem_append_right _ (List.mem_append_right _ (List.mem_append_right _ (List.mem_append_left _ h))))
theorem inA_wA_5 : ∀ w ∈ wA_5, w ∈ wAll := fun w h => List.mem_append_right _ (List.mem_append_right _ (List.mem_append_right _ (List.mem_append_right _ (List.mem_append_right _ (List.mem_append_left _ h)))))
theorem inA_wA_6 : ∀ w ∈ wA_6, w ∈ wAll := fun w h => List.mem_append_right _ (List.mem_append_right _ (List.mem_append_right _ (List.mem_append_right _ (List.mem_append_right _ (List.mem_append_right _ (List.mem_append_left _ h))))))
theorem inA_wA_7 : ∀ w ∈ wA_7, w ∈ wAll := fun w h => List.mem_append_right _ (List.mem_append_right _ (List.mem_append_right _ (List.mem_append_right _ (List.mem_append_right _ (List.mem_append_right _ (List.mem_append_right _ (List.mem_append_left _ h)))))))
theorem inA_wA_8 : ∀ w ∈ wA_8, w ∈ wAll := fun w h => List.mem_append_right _ (List.mem_append_right _ (List.mem_append_right _ (List.mem_append_right _ (List.mem_append_right _ (List.mem_append_right _ (List.mem_append_right _ (List.mem_append_right _ (List.mem_append_left _ h))))))))
theorem inA_wA_9 : ∀ w ∈ wA_9, w ∈ wAll := fun w h => List.mem_append_right _ (List.mem_append_right _ (List.mem_append_right _ (List.mem_append_right _ (List.mem_append_right _ (List.mem_append_right _ (List.mem_append_right _ (List.mem_append_right _ (List.mem_append_right _ (List.mem_append_left _ h)))))))))
theorem inA_wA_10 : ∀ w ∈ wA_10, w ∈ wAll := fun w h => List.mem_append_right _ (List.mem_append_right _ (List.mem_append_right _ (List.mem_append_right _ (List.mem_append_right _ (List.mem_append_right _ (List.mem_append_right _ (List.mem_append_right _ (List.mem_append_right _ (List.mem_append_right _ (List.mem_append_left _ h))))))))))
theorem inA_wA_11 : ∀ w ∈ wA_11, w ∈ wAll := fun w h => List.mem_append_right _ (List.mem_append_right _ (List.mem_append_right _ (List.mem_append_right _ (List.mem_append_right _ (List.mem_append_right _ (List.mem_append_right _ (List.mem_append_right _ (List.mem_append_right _ (List.mem_append_right _ (List.mem_append_right _ (List.mem_append_left _ h)))))))))))
theorem inA_wA_12 : ∀ w ∈ wA_12, w ∈ wAll := fun w h => List.mem_append_right _ (List.mem_append_right _ (List.mem_append_right _ (List.mem_append_right _ (List.mem_append_right _ (List.mem_append_right _ (List.mem_append_right _ (List.mem_append_right _ (List.mem_append_right _ (List.mem_append_right _ (List.mem_append_right _ (List.mem_append_right _ (List.mem_append_left _ h))))))))))))
theorem inA_wA_13 : ∀ w ∈ wA_13, w ∈ wAll := fun w h => List.mem_append_right _ (List.mem_append_right _ (List.mem_append_right _ (List.mem_append_right _ (List.mem_append_right _ (List.mem_append_right _ (List.mem_append_right _ (List.mem_append_right _ (List.mem_append_right _ (List.mem_append_right _ (List.mem_append_right _ (List.mem_append_right _ (List.mem_append_right _ (List.mem_append_left _ h)))))))))))))
theorem inA_wA_14 : ∀ w ∈ wA_14, w ∈ wAll := fun w h => List.mem_append_right _ (List.mem_append_right _ (List.mem_append_right _ (List.mem_append_right _ (List.mem_append_right _ (List.mem_append_right _ (List.mem_append_right _ (List.mem_append_right _ (List.mem_append_right _ (List.mem_append_right _ (List.mem_append_right _ (List.mem_append_right _ (List.mem_append_right _ (List.mem_append_right _ (List.mem_append_left _ h))))))))))))))
theorem inA_wA_15 : ∀ w ∈ wA_15, w ∈ wAll := fun w h => List.mem_append_right _ (List.mem_append_right _ (List.mem_append_right _ (List.mem_append_right _ (List.mem_append_right _ (List.mem_append_right _ (List.mem_append_right _ (List.mem_append_right _ (List.mem_append_right _ (List.mem_append_right _ (List.mem_append_right _ (List.mem_append_right _ (List.mem_append_right _ (List.mem_append_right _ (List.mem_append_right _ (List.mem_append_left _ h)))))))))))))))
theorem inA_wA_16 : ∀ w ∈ wA_16, w ∈ wAll := fun w h => List.mem_append_right _ (List.mem_append_right _ (List.mem_append_right _ (List.mem_append_right _ (List.mem_append_right _ (List.mem_append_right _ (List.mem_append_right _ (List.mem_append_right _ (List.mem_append_right _ (List.mem_append_right _ (List.mem_append_right _ (List.mem_append_right _ (List.mem_append_right _ (List.mem_append_right _ (List.mem_append_right _ (List.mem_append_right _ (List.mem_append_left _ h))))))))))))))))
theorem inA_wA_17 : ∀ w ∈ wA_17, w ∈ wAll := fun w h => List.mem_append_right _ (List.mem_append_right _ (List.mem_append_right _ (List.mem_append_right _ (List.mem_append_right _ (List.mem_append_right _ (List.mem_append_right _ (List.mem_append_right _ (List.mem_append_right _ (List.mem_append_right _ (List.mem_append_right _ (List.mem_append_right _ (List.mem_append_right _ (List.mem_append_right _ (List.mem_append_right _ (List.mem_append_right _ (List.mem_append_right _ (List.mem_append_left _ h)))))))))))))))))
theorem inA_wA_18 : ∀ w ∈ wA_18, w ∈ wAll := fun w h => List.mem_append_right _ (List.mem_append_right _ (List.mem_append_right _ (List.mem_append_right _ (List.mem_append_right _ (List.mem_append_right _ (List.mem_append_right _ (List.mem_append_right _ (List.mem_append_right _ (List.mem_append_right _ (List.mem_append_right _ (List.mem_append_right _ (List.mem_append_right _ (List.mem_append_right _ (List.mem_append_right _ (List.mem_append_right _ (List.mem_append_right _ (List.mem_append_right _ (List.mem_append_left _ h))))))))))))))))))
theorem inA_wA_19 : ∀ w ∈ wA_19, w ∈ wAll := fun w h => List.mem_append_right _ (List.mem_append_right _ (List.mem_append_right _ (List.mem_append_right _ (List.mem_append_right _ (List.mem_append_right _ (List.mem_append_right _ (List.mem_append_right _ (List.mem_append_right _ (List.mem_append_right _ (List.mem_append_right _ (List.mem_append_right _ (List.mem_append_right _ (List.mem_append_right _ (List.mem_append_right _ (List.mem_append_right _ (List.mem_append_right _ (List.mem_append_right _ (List.mem_append_right _ (List.mem_append_left _ h)))))))))))))))))))
theorem inA_wA_20 : ∀ w ∈ wA_20, w ∈ wAll := fun w h => List.mem_append_right _ (List.mem_append_right _ (List.mem_append_right _ (List.mem_append_right _ (List.mem_append_right _ (List.mem_append_right _ (List.mem_append_right _ (List.mem_append_right _ (List.mem_append_right _ (List.mem_append_right _ (List.mem_append_right _ (List.mem_append_right _ (List.mem_append_right _ (List.mem_append_right _ (List.mem_append_right _ (List.mem_append_right _ (List.mem_append_right _ (List.mem_append_right _ (List.mem_append_right _ (List.mem_append_right _ (List.mem_append_left _ h))))))))))))))))))))
theorem inA_wA_21 : ∀ w ∈ wA_21, w ∈ wAll := fun w h => List.mem_append_right _ (List.mem_append_right _ (List.mem_append_right _ (List.mem_append_right _ (List.mem_append_right _ (List.mem_append_right _ (List.mem_append_right _ (List.mem_append_right _ (List.mem_append_right _ (List.mem_append_right _ (List.mem_append_right _ (List.mem_append_right _ (List.mem_append_right _ (List.mem_append_right _ (List.mem_append_right _ (List.mem_append_right _ (List.mem_append_right _ (List.mem_append_right _ (List.mem_append_right _ (List.mem_append_right _ (List.mem_append_right _ (List.mem_append_left _ h)))))))))))))))))))))
theorem inA_wA_22 : ∀ w ∈ wA_22, w ∈ wAll := fun w h => List.mem_append_right _ (List.mem_append_right _ (List.mem_append_right _ (List.mem_append_right _ (List.mem_append_right _ (List.mem_append_right _ (List.mem_append_right _ (List.mem_append_right _ (List.mem_append_right _ (List.mem_append_right _ (List.mem_append_right _ (List.mem_append_right _ (List.mem_append_right _ (List.mem_append_right _ (List.mem_append_right _ (List.mem_append_right _ (List.mem_append_right _ (List.mem_append_right _ (List.mem_append_right _ (List.mem_append_right _ (List.mem_append_right _ (List.mem_append_right _ (List.mem_append_left _ h))))))))))))))))))))))
theorem inA_wA_23 : ∀ w ∈ wA_23, w ∈ wAll := fun w h => List.mem_append_right _ (List.mem_append_right _ (List.mem_append_right _ (List.mem_append_right _ (List.mem_append_right _ (List.mem_append_right _ (List.mem_append_right _ (List.mem_append_right _ (List.mem_append_right _ (List.mem_append_right _ (List.mem_append_right _ (List.mem_append_right _ (List.mem_append_right _ (List.mem_append_right _ (List.mem_append_right _ (List.mem_append_right _ (List.mem_append_right _ (List.mem_append_right _ (List.mem_append_right _ (List.mem_append_right _ (List.mem_append_right _ (List.mem_append_right _ (List.mem_append_right _ (List.mem_append_left _ h)))))))))))))))))))))))
theorem inA_wA_24 : ∀ w ∈ wA_24, w ∈ wAll := fun w h => List.mem_append_right _ (List.mem_append_right _ (List.mem_append_right _ (List.mem_append_right _ (List.mem_append_right _ (List.mem_append_right _ (List.mem_append_right _ (List.mem_append_right _ (List.mem_append_right _ (List.mem_append_right _ (List.mem_append_right _ (List.mem_append_right _ (List.mem_append_right _ (List.mem_append_right _ (List.mem_append_right _ (List.mem_append_right _ (List.mem_append_right _ (List.mem_append_right _ (List.mem_append_right _ (List.mem_append_right _ (List.mem_append_right _ (List.mem_append_right _ (List.mem_append_right _ (List.mem_append_right _ (List.mem_append_left _ h))))))))))))))))))))))))
theorem inA_wA_25 : ∀ w ∈ wA_25, w ∈ wAll := fun w h => List.mem_append_right _ (List.mem_append_right _ (List.mem_append_right _ (List.mem_append_right _ (List.mem_append_right _ (List.mem_append_right _ (List.mem_append_right _ (List.mem_append_right _ (List.mem_append_right _ (List.mem_append_right _ (List.mem_append_right _ (List.mem_append_right _ (List.mem_append_right _ (List.mem_append_right _ (List.mem_append_right _ (List.mem_append_right _ (List.mem_append_right _ (List.mem_append_right _ (List.mem_append_right _ (List.mem_append_right _ (List.mem_append_right _ (List.mem_append_right _ (List.mem_append_right _ (List.mem_append_right _ (List.mem_append_right _ (List.mem_append_left _ h)))))))))))))))))))))))))
theorem inA_wA_26 : ∀ w ∈ wA_26, w ∈ wAll := fun w h => List.mem_append_right _ (List.mem_append_right _ (List.mem_append_right _ (List.mem_append_right _ (List.mem_append_right _ (List.mem_append_right _ (List.mem_append_right _ (List.mem_append_right _ (List.mem_append_right _ (List.mem_append_right _ (List.mem_append_right _ (List.mem_append_right _ (List.mem_append_right _ (List.mem_append_right _ (List.mem_append_right _ (List.mem_append_right _ (List.mem_append_right _ (List.mem_append_right _ (List.mem_append_right _ (List.mem_append_right _ (List.mem_append_right _ (List.mem_append_right _ (List.mem_append_right _ (List.mem_append_right _ (List.mem_append_right _ (List.mem_append_right _ (List.mem_append_left _ h))))))))))))))))))))))))))
theorem inA_wA_27 : ∀ w ∈ wA_27, w ∈ wAll := fun w h => List.mem_append_right _ (List.mem_append_right _ (List.mem_append_right _ (List.mem_append_right _ (List.mem_append_right _ (List.mem_append_right _ (List.mem_append_right _ (List.mem_append_right _ (List.mem_append_right _ (List.mem_append_right _ (List.mem_append_right _ (List.mem_append_right _ (List.mem_append_right _ (List.mem_append_right _ (List.mem_append_right _ (List.mem_append_right _ (List.mem_append_right _ (List.mem_append_right _ (List.mem_append_right _ (List.mem_append_right _ (List.mem_append_right _ (List.mem_append_right _ (List.mem_append_right _ (List.mem_append_right _ (List.mem_append_right _ (List.mem_append_right _ (List.mem_append_right _ (List.mem_append_left _ h)))))))))))))))))))))))))))
theorem inA_wA_28 : ∀ w ∈ wA_28, w ∈ wAll := fun w h => List.mem_append_right _ (List.mem_append_right _ (List.mem_append_right _ (List.mem_append_right _ (List.mem_append_right _ (List.mem_append_right _ (List.mem_append_right _ (List.mem_append_right _ (List.mem_append_right _ (List.mem_append_right _ (List.mem_append_right _ (List.mem_append_right _ (List.mem_append_right _ (List.mem_append_right _ (List.mem_append_right _ (List.mem_append_right _ (List.mem_append_right _ (List.mem_append_right _ (List.mem_append_right _ (List.mem_append_right _ (List.mem_append_right _ (List.mem_append_right _ (List.mem_append_right _ (List.mem_append_right _ (List.mem_append_right _ (List.mem_append_right _ (List.mem_append_right _ (List.mem_append_right _ (List.mem_append_left _ h))))))))))))))))))))))))))))
theorem inA_wA_29 : ∀ w ∈ wA_29, w ∈ wAll := fun w h => List.mem_append_right _ (List.mem_append_right _ (List.mem_append_right _ (List.mem_append_right _ (List.mem_append_right _ (List.mem_append_right _ (List.mem_append_right _ (List.mem_append_right _ (List.mem_append_right _ (List.mem_append_right _ (List.mem_append_right _ (List.mem_append_right _ (List.mem_append_right _ (List.mem_append_right _ (List.mem_append_right _ (List.mem_append_right _ (List.mem_append_right _ (List.mem_append_right _ (List.mem_append_right _ (List.mem_append_right _ (List.mem_append_right _ (List.mem_append_right _ (List.mem_append_right _ (List.mem_append_right _ (List.mem_append_right _ (List.mem_append_right _ (List.mem_append_right _ (List.mem_append_right _ (List.mem_append_right _ (List.mem_append_left _ h)))))))))))))))))))))))))))))
theorem inA_wsX00 : ∀ w ∈ wsX00, w ∈ wAll := fun w h => List.mem_append_right _ (List.mem_append_right _ (List.mem_append_right _ (List.mem_append_right _ (List.mem_append_right _ (List.mem_append_right _ (List.mem_append_right _ (List.mem_append_right _ (List.mem_append_right _ (List.mem_append_right _ (List.mem_append_right _ (List.mem_append_right _ (List.mem_append_right _ (List.mem_append_right _ (List.mem_append_right _ (List.mem_append_right _ (List.mem_append_right _ (List.mem_append_right _ (List.mem_append_right _ (List.mem_append_right _ (List.mem_append_right _ (List.mem_append_right _ (List.mem_append_right _ (List.mem_append_right _ (List.mem_append_right _ (List.mem_append_right _ (List.mem_append_right _ (List.mem_append_right _ (List.mem_append_right _ (List.mem_append_right _ (List.mem_append_left _ h))))))))))))))))))))))))))))))
theorem inA_wsX10 : ∀ w ∈ wsX10, w ∈ wAll := fun w h => List.mem_append_right _ (List.mem_append_right _ (List.mem_append_right _ (List.mem_append_right _ (List.mem_append_right _ (List.mem_append_right _ (List.mem_append_right _ (List.mem_append_right _ (List.mem_append_right _ (List.mem_append_right _ (List.mem_append_right _ (List.mem_append_right _ (List.mem_append_right _ (List.mem_append_right _ (List.mem_append_right _ (List.mem_append_right _ (List.mem_append_right _ (List.mem_append_right _ (List.mem_append_right _ (List.mem_append_right _ (List.mem_append_right _ (List.mem_append_right _ (List.mem_append_right _ (List.mem_append_right _ (List.mem_append_right _ (List.mem_append_right _ (List.mem_append_right _ (List.mem_append_right _ (List.mem_append_right _ (List.mem_append_right _ (List.mem_append_right _ (List.mem_append_left _ h)))))))))))))))))))))))))))))))
theorem inA_wsX20 : ∀ w ∈ wsX20, w ∈ wAll := fun w h => List.mem_append_right _ (List.mem_append_right _ (List.mem_append_right _ (List.mem_append_right _ (List.mem_append_right _ (List.mem_append_right _ (List.mem_append_right _ (List.mem_append_right _ (List.mem_append_right _ (List.mem_append_right _ (List.mem_append_right _ (List.mem_append_right _ (List.mem_append_right _ (List.mem_append_right _ (List.mem_append_right _ (List.mem_append_right _ (List.mem_append_right _ (List.mem_append_right _ (List.mem_append_right _ (List.mem_append_right _ (List.mem_append_right _ (List.mem_append_right _ (List.mem_append_right _ (List.mem_append_right _ (List.mem_append_right _ (List.mem_append_right _ (List.mem_append_right _ (List.mem_append_right _ (List.mem_append_right _ (List.mem_append_right _ (List.mem_append_right _ (List.mem_append_right _ (List.mem_append_left _ h))))))))))))))))))))))))))))))))
theorem inA_wsX30 : ∀ w ∈ wsX30, w ∈ wAll := fun w h => List.mem_append_right _ (List.mem_append_right _ (List.mem_append_right _ (List.mem_append_right _ (List.mem_append_right _ (List.mem_append_right _ (List.mem_append_right _ (List.mem_append_right _ (List.mem_append_right _ (List.mem_append_right _ (List.mem_append_right _ (List.mem_append_right _ (List.mem_append_right _ (List.mem_append_right _ (List.mem_append_right _ (List.mem_append_right _ (List.mem_append_right _ (List.mem_append_right _ (List.mem_append_right _ (List.mem_append_right _ (List.mem_append_right _ (List.mem_append_right _ (List.mem_append_right _ (List.mem_append_right _ (List.mem_append_right _ (List.mem_append_right _ (List.mem_append_right _ (List.mem_append_right _ (List.mem_append_right _ (List.mem_append_right _ (List.mem_append_right _ (List.mem_append_right _ (List.mem_append_right _ (List.mem_append_left _ h)))))))))))))))))))))))))))))))))
theorem inA_wsX40 : ∀ w ∈ wsX40, w ∈ wAll := fun w h => List.mem_append_right _ (List.mem_append_right _ (List.mem_append_right _ (List.mem_append_right _ (List.mem_append_right _ (List.mem_append_right _ (List.mem_append_right _ (List.mem_append_right _ (List.mem_append_right _ (List.mem_append_right _ (List.mem_append_right _ (List.mem_append_right _ (List.mem_append_right _ (List.mem_append_right _ (List.mem_append_right _ (List.mem_append_right _ (List.mem_append_right _ (List.mem_append_right _ (List.mem_append_right _ (List.mem_append_right _ (List.mem_append_right _ (List.mem_append_right _ (List.mem_append_right _ (List.mem_append_right _ (List.mem_append_right _ (List.mem_append_right _ (List.mem_append_right _ (List.mem_append_right _ (List.mem_append_right _ (List.mem_append_right _ (List.mem_append_right _ (List.mem_append_right _ (List.mem_append_right _ (List.mem_append_right _ (List.mem_append_left _ h))))))))))))))))))))))))))))))))))
theorem inA_wsX50 : ∀ w ∈ wsX50, w ∈ wAll := fun w h => List.mem_append_right _ (List.mem_append_right _ (List.mem_append_right _ (List.mem_append_right _ (List.mem_append_right _ (List.mem_append_right _ (List.mem_append_right _ (List.mem_append_right _ (List.mem_append_right _ (List.mem_append_right _ (List.mem_append_right _ (List.mem_append_right _ (List.mem_append_right _ (List.mem_append_right _ (List.mem_append_right _ (List.mem_append_right _ (List.mem_append_right _ (List.mem_append_right _ (List.mem_append_right _ (List.mem_append_right _ (List.mem_append_right _ (List.mem_append_right _ (List.mem_append_right _ (List.mem_append_right _ (List.mem_append_right _ (List.mem_append_right _ (List.mem_append_right _ (List.mem_append_right _ (List.mem_append_right _ (List.mem_append_right _ (List.mem_append_right _ (List.mem_append_right _ (List.mem_append_right _ (List.mem_append_right _ (List.mem_append_right _ (List.mem_append_left _ h)))))))))))))))))))))))))))))))))))
theorem inA_wsX60 : ∀ w ∈ wsX60, w ∈ wAll := fun w h => List.mem_append_right _ (List.mem_append_right _ (List.mem_append_right _ (List.mem_append_right _ (List.mem_append_right _ (List.mem_append_right _ (List.mem_append_right _ (List.mem_append_right _ (List.mem_append_right _ (List.mem_append_right _ (List.mem_append_right _ (List.mem_append_right _ (List.mem_append_right _ (List.mem_append_right _ (List.mem_append_right _ (List.mem_append_right _ (List.mem_append_right _ (List.mem_append_right _ (List.mem_append_right _ (List.mem_append_right _ (List.mem_append_right _ (List.mem_append_right _ (List.mem_append_right _ (List.mem_append_right _ (List.mem_append_right _ (List.mem_append_right _ (List.mem_append_right _ (List.mem_append_right _ (List.mem_append_right _ (List.mem_append_right _ (List.mem_append_right _ (List.mem_append_right _ (List.mem_append_right _ (List.mem_append_right _ (List.mem_append_right _ (List.mem_append_right _ (List.mem_append_left _ h))))))))))))))))))))))))))))))))))))
theorem inA_wsX70 : ∀ w ∈ wsX70, w ∈ wAll := fun w h => List.mem_append_right _ (List.mem_append_right _ (List.mem_append_right _ (List.mem_append_right _ (List.mem_append_right _ (List.mem_append_right _ (List.mem_append_right _ (List.mem_append_right _ (List.mem_append_right _ (List.mem_append_right _ (List.mem_append_right _ (List.mem_append_right _ (List.mem_append_right _ (List.mem_append_right _ (List.mem_append_right _ (List.mem_append_right _ (List.mem_append_right _ (List.mem_append_right _ (List.mem_append_right _ (List.mem_append_right _ (List.mem_append_right _ (List.mem_append_right _ (List.mem_append_right _ (List.mem_append_right _ (List.mem_append_right _ (List.mem_append_right _ (List.mem_append_right _ (List.mem_append_right _ (List.mem_append_right _ (List.mem_append_right _ (List.mem_append_right _ (List.mem_append_right _ (List.mem_append_right _ (List.mem_append_right _ (List.mem_append_right _ (List.mem_append_right _ (List.mem_append_right _ (List.mem_append_left _ h)))))))))))))))))))))))))))))))))))))
theorem inA_wsX80 : ∀ w ∈ wsX80, w ∈ wAll := fun w h => List.mem_append_right _ (List.mem_append_right _ (List.mem_append_right _ (List.mem_append_right _ (List.mem_append_right _ (List.mem_append_right _ (List.mem_append_right _ (List.mem_append_right _ (List.mem_append_right _ (List.mem_append_right _ (List.mem_append_right _ (List.mem_append_right _ (List.mem_append_right _ (List.mem_append_right _ (List.mem_append_right _ (List.mem_append_right _ (List.mem_append_right _ (List.mem_append_right _ (List.mem_append_right _ (List.mem_append_right _ (List.mem_append_right _ (List.mem_append_right _ (List.mem_append_right _ (List.mem_append_right _ (List.mem_append_right _ (List.mem_append_right _ (List.mem_append_right _ (List.mem_append_right _ (List.mem_append_right _ (List.mem_append_right _ (List.mem_append_right _ (List.mem_append_right _ (List.mem_append_right _ (List.mem_append_right _ (List.mem_append_right _ (List.mem_append_right _ (List.mem_append_right _ (List.mem_append_right _ (List.mem_append_left _ h))))))))))))))))))))))))))))))))))))))
theorem inA_wsX90 : ∀ w ∈ wsX90, w ∈ wAll := fun w h => List.mem_append_right _ (List.mem_append_right _ (List.mem_append_right _ (List.mem_append_right _ (List.mem_append_right _ (List.mem_append_right _ (List.mem_append_right _ (List.mem_append_right _ (List.mem_append_right _ (List.mem_append_right _ (List.mem_append_right _ (List.mem_append_right _ (List.mem_append_right _ (List.mem_append_right _ (List.mem_append_right _ (List.mem_append_right _ (List.mem_append_right _ (List.mem_append_right _ (List.mem_append_right _ (List.mem_append_right _ (List.mem_append_right _ (List.mem_append_right _ (List.mem_append_right _ (List.mem_append_right _ (List.mem_append_right _ (List.mem_append_right _ (List.mem_append_right _ (List.mem_append_right _ (List.mem_append_right _ (List.mem_append_right _ (List.mem_append_right _ (List.mem_append_right _ (List.mem_append_right _ (List.mem_append_right _ (List.mem_append_right _ (List.mem_append_right _ (List.mem_append_right _ (List.mem_append_right _ (List.mem_append_right _ (List.mem_append_left _ h)))))))))))))))))))))))))))))))))))))))
theorem inA_wsX100 : ∀ w ∈ wsX100, w ∈ wAll := fun w h => List.mem_append_right _ (List.mem_append_right _ (List.mem_append_right _ (List.mem_append_right _ (List.mem_append_right _ (List.mem_append_right _ (List.mem_append_right _ (List.mem_append_right _ (List.mem_append_right _ (List.mem_append_right _ (List.mem_append_right _ (List.mem_append_right _ (List.mem_append_right _ (List.mem_append_right _ (List.mem_append_right _ (List.mem_append_right _ (List.mem_append_right _ (List.mem_append_right _ (List.mem_append_right _ (List.mem_append_right _ (List.mem_append_right _ (List.mem_append_right _ (List.mem_append_right _ (List.mem_append_right _ (List.mem_append_right _ (List.mem_append_right _ (List.mem_append_right _ (List.mem_append_right _ (List.mem_append_right _ (List.mem_append_right _ (List.mem_append_right _ (List.mem_append_right _ (List.mem_append_right _ (List.mem_append_right _ (List.mem_append_right _ (List.mem_append_right _ (List.mem_append_right _ (List.mem_append_right _ (List.mem_append_right _ (List.mem_append_right _ (h))))))))))))))))))))))))))))))))))))))))
theorem m_0 : Cond.fieldLink RX7 43 "CardBowl$Town" "houses" "I" ∈ wAll := inA_wA_0 _ (List.mem_of_getElem? (i := 0) rfl)
theorem m_1 : Cond.code yX7_has cX7_has 2 (some .boolean) ∈ wAll := inA_wA_0 _ (List.mem_of_getElem? (i := 1) rfl)
theorem m_2 : Cond.initialized RX7 ∈ wAll := inA_wA_0 _ (List.mem_of_getElem? (i := 2) rfl)
theorem m_3 : Cond.methodLink RX7 61 yX7_has ∈ wAll := inA_wA_0 _ (List.mem_of_getElem? (i := 3) rfl)
theorem m_4 : Cond.instanceMethod yX7_has ∈ wAll := inA_wA_0 _ (List.mem_of_getElem? (i := 4) rfl)
theorem m_5 : Cond.selects RX7 yX7_has yX7_has ∈ wAll := inA_wA_0 _ (List.mem_of_getElem? (i := 5) rfl)
theorem m_6 : Cond.code yX7_hasPair cX7_hasPair 3 (some .boolean) ∈ wAll := inA_wA_0 _ (List.mem_of_getElem? (i := 6) rfl)
theorem m_7 : Cond.fieldLink RX7 34 "CardBowl$Town" "came" "[I" ∈ wAll := inA_wA_0 _ (List.mem_of_getElem? (i := 7) rfl)
theorem m_8 : Cond.code yX7_isThere cX7_isThere 3 (some .boolean) ∈ wAll := inA_wA_0 _ (List.mem_of_getElem? (i := 8) rfl)
theorem m_9 : Cond.fieldLink RX7 46 "CardBowl$Town" "fresh" "I" ∈ wAll := inA_wA_0 _ (List.mem_of_getElem? (i := 9) rfl)
theorem m_10 : Cond.code yX7_isNew cX7_isNew 3 (some .boolean) ∈ wAll := inA_wA_0 _ (List.mem_of_getElem? (i := 10) rfl)
theorem m_11 : Cond.fieldLink RX7 37 "CardBowl$Town" "bride" "[I" ∈ wAll := inA_wA_0 _ (List.mem_of_getElem? (i := 11) rfl)
theorem m_12 : Cond.code yX7_waits cX7_waits 3 (some .boolean) ∈ wAll := inA_wA_0 _ (List.mem_of_getElem? (i := 12) rfl)
theorem m_13 : Cond.fieldLink RX7 15 "CardBowl$Town" "x" "[I" ∈ wAll := inA_wA_0 _ (List.mem_of_getElem? (i := 13) rfl)
theorem m_14 : Cond.methodLink RX7 65 Lib.Math.abs.name ∈ wAll := inA_wA_0 _ (List.mem_of_getElem? (i := 14) rfl)
theorem m_15 : Cond.static Lib.Math.abs.name ∈ wAll := inA_wA_0 _ (List.mem_of_getElem? (i := 15) rfl)
theorem m_16 : Cond.initialized "java/lang/Math" ∈ wAll := inA_wA_0 _ (List.mem_of_getElem? (i := 16) rfl)
theorem m_17 : Cond.code Lib.Math.abs.name Lib.Math.abs.code 1 (some .int) ∈ wAll := inA_wA_0 _ (List.mem_of_getElem? (i := 17) rfl)
theorem m_18 : Cond.fieldLink RX7 19 "CardBowl$Town" "y" "[I" ∈ wAll := inA_wA_0 _ (List.mem_of_getElem? (i := 18) rfl)
theorem m_19 : Cond.code yX7_minutes cX7_minutes 3 (some .int) ∈ wAll := inA_wA_0 _ (List.mem_of_getElem? (i := 19) rfl)
theorem m_20 : Cond.fieldLink RX1 30 "CardBowl$Debts" "kinds" "[I" ∈ wAll := inA_wA_0 _ (List.mem_of_getElem? (i := 20) rfl)
theorem m_21 : Cond.code yX1_kindsOf cX1_kindsOf 3 (some .int) ∈ wAll := inA_wA_0 _ (List.mem_of_getElem? (i := 21) rfl)
theorem m_22 : Cond.fieldLink RX1 33 "CardBowl$Debts" "size" "I" ∈ wAll := inA_wA_0 _ (List.mem_of_getElem? (i := 22) rfl)
theorem m_23 : Cond.fieldLink RX1 21 "CardBowl$Debts" "due" "[I" ∈ wAll := inA_wA_0 _ (List.mem_of_getElem? (i := 23) rfl)
theorem m_24 : Cond.code yX1_overdue cX1_overdue 4 (some .int) ∈ wAll := inA_wA_1 _ (List.mem_of_getElem? (i := 0) rfl)
theorem m_25 : Cond.fieldLink RX1 15 "CardBowl$Debts" "creditor" "[I" ∈ wAll := inA_wA_1 _ (List.mem_of_getElem? (i := 1) rfl)
theorem m_26 : Cond.code yX1_overdueTo cX1_overdueTo 5 (some .int) ∈ wAll := inA_wA_1 _ (List.mem_of_getElem? (i := 2) rfl)
theorem m_27 : Cond.fieldLink RX1 27 "CardBowl$Debts" "open" "[I" ∈ wAll := inA_wA_1 _ (List.mem_of_getElem? (i := 3) rfl)
theorem m_28 : Cond.fieldLink RX1 9 "CardBowl$Debts" "debtor" "[I" ∈ wAll := inA_wA_1 _ (List.mem_of_getElem? (i := 4) rfl)
theorem m_29 : Cond.code yX1_nth cX1_nth 5 (some .int) ∈ wAll := inA_wA_1 _ (List.mem_of_getElem? (i := 5) rfl)
theorem m_30 : Cond.fieldLink RX1 18 "CardBowl$Debts" "kind" "[I" ∈ wAll := inA_wA_1 _ (List.mem_of_getElem? (i := 6) rfl)
theorem m_31 : Cond.fieldLink RX1 24 "CardBowl$Debts" "came" "[I" ∈ wAll := inA_wA_1 _ (List.mem_of_getElem? (i := 7) rfl)
theorem m_32 : Cond.code yX1_add cX1_add 6 none ∈ wAll := inA_wA_1 _ (List.mem_of_getElem? (i := 8) rfl)
theorem m_33 : Cond.code yX1_move cX1_move 3 none ∈ wAll := inA_wA_1 _ (List.mem_of_getElem? (i := 9) rfl)
theorem m_34 : Cond.fieldLink RX2 24 "CardBowl$Deeds" "size" "I" ∈ wAll := inA_wA_1 _ (List.mem_of_getElem? (i := 10) rfl)
theorem m_35 : Cond.code yX2_isFull cX2_isFull 1 (some .boolean) ∈ wAll := inA_wA_1 _ (List.mem_of_getElem? (i := 11) rfl)
theorem m_36 : Cond.fieldLink RX2 9 "CardBowl$Deeds" "who" "[I" ∈ wAll := inA_wA_1 _ (List.mem_of_getElem? (i := 12) rfl)
theorem m_37 : Cond.fieldLink RX2 15 "CardBowl$Deeds" "whom" "[I" ∈ wAll := inA_wA_1 _ (List.mem_of_getElem? (i := 13) rfl)
theorem m_38 : Cond.fieldLink RX2 18 "CardBowl$Deeds" "what" "[I" ∈ wAll := inA_wA_1 _ (List.mem_of_getElem? (i := 14) rfl)
theorem m_39 : Cond.fieldLink RX2 21 "CardBowl$Deeds" "day" "[I" ∈ wAll := inA_wA_1 _ (List.mem_of_getElem? (i := 15) rfl)
theorem m_40 : Cond.code yX2_add cX2_add 5 none ∈ wAll := inA_wA_1 _ (List.mem_of_getElem? (i := 16) rfl)
theorem m_41 : Cond.code yX2_callsBy cX2_callsBy 4 (some .int) ∈ wAll := inA_wA_1 _ (List.mem_of_getElem? (i := 17) rfl)
theorem m_42 : Cond.code yX2_callsTo cX2_callsTo 4 (some .int) ∈ wAll := inA_wA_1 _ (List.mem_of_getElem? (i := 18) rfl)
theorem m_43 : Cond.fieldLink RX5 23 "CardBowl$Slot" "size" "I" ∈ wAll := inA_wA_1 _ (List.mem_of_getElem? (i := 19) rfl)
theorem m_44 : Cond.fieldLink RX5 9 "CardBowl$Slot" "numbers" "[J" ∈ wAll := inA_wA_1 _ (List.mem_of_getElem? (i := 20) rfl)
theorem m_45 : Cond.constantLong RX5 32 (16) ∈ wAll := inA_wA_1 _ (List.mem_of_getElem? (i := 21) rfl)
theorem m_46 : Cond.code yX5_small cX5_small 2 (some .int) ∈ wAll := inA_wA_1 _ (List.mem_of_getElem? (i := 22) rfl)
theorem m_47 : Cond.code yX5_hasRun cX5_hasRun 3 (some .boolean) ∈ wAll := inA_wA_1 _ (List.mem_of_getElem? (i := 23) rfl)
theorem m_48 : Cond.fieldLink RX0 33 "CardBowl$Code" "lines" "I" ∈ wAll := inA_wA_2 _ (List.mem_of_getElem? (i := 0) rfl)
theorem m_49 : Cond.fieldLink RX0 37 "CardBowl$Code" "used" "I" ∈ wAll := inA_wA_2 _ (List.mem_of_getElem? (i := 1) rfl)
theorem m_50 : Cond.code yX0_clear cX0_clear 1 none ∈ wAll := inA_wA_2 _ (List.mem_of_getElem? (i := 2) rfl)
theorem m_51 : Cond.fieldLink RX0 27 "CardBowl$Code" "tests" "[I" ∈ wAll := inA_wA_2 _ (List.mem_of_getElem? (i := 3) rfl)
theorem m_52 : Cond.code yX0_put cX0_put 2 none ∈ wAll := inA_wA_2 _ (List.mem_of_getElem? (i := 4) rfl)
theorem m_53 : Cond.fieldLink RX0 30 "CardBowl$Code" "facts" "[I" ∈ wAll := inA_wA_2 _ (List.mem_of_getElem? (i := 5) rfl)
theorem m_54 : Cond.code yX0_partOf cX0_partOf 2 (some .int) ∈ wAll := inA_wA_2 _ (List.mem_of_getElem? (i := 6) rfl)
theorem m_55 : Cond.code yJ7_fill_53178 cJ7_fill_53178 4 none ∈ wAll := inA_wA_2 _ (List.mem_of_getElem? (i := 7) rfl)
theorem m_56 : Cond.code yJ7_fill_d0a16 cJ7_fill_d0a16 5 none ∈ wAll := inA_wA_2 _ (List.mem_of_getElem? (i := 8) rfl)
theorem m_57 : Cond.constant RJ6 265 (1431655765) ∈ wAll := inA_wA_2 _ (List.mem_of_getElem? (i := 9) rfl)
theorem m_58 : Cond.constant RJ6 266 (858993459) ∈ wAll := inA_wA_2 _ (List.mem_of_getElem? (i := 10) rfl)
theorem m_59 : Cond.constant RJ6 267 (252645135) ∈ wAll := inA_wA_2 _ (List.mem_of_getElem? (i := 11) rfl)
theorem m_60 : Cond.code yJ6_bitCount_0f7a4 cJ6_bitCount_0f7a4 1 (some .int) ∈ wAll := inA_wA_2 _ (List.mem_of_getElem? (i := 12) rfl)
theorem m_61 : Cond.constant RJ6 264 (65536) ∈ wAll := inA_wA_2 _ (List.mem_of_getElem? (i := 13) rfl)
theorem m_62 : Cond.code yJ6_numberOfTrailingZeros_0f7a4 cJ6_numberOfTrailingZeros_0f7a4 2 (some .int) ∈ wAll := inA_wA_2 _ (List.mem_of_getElem? (i := 14) rfl)
theorem m_63 : Cond.fieldLink RX5 15 "CardBowl$Slot" "filled" "Z" ∈ wAll := inA_wA_2 _ (List.mem_of_getElem? (i := 15) rfl)
theorem m_64 : Cond.fieldLink RX5 19 "CardBowl$Slot" "width" "I" ∈ wAll := inA_wA_2 _ (List.mem_of_getElem? (i := 16) rfl)
theorem m_65 : Cond.initialized RJ7 ∈ wAll := inA_wA_2 _ (List.mem_of_getElem? (i := 17) rfl)
theorem m_66 : Cond.methodLink RX5 26 yJ7_fill_d0a16 ∈ wAll := inA_wA_2 _ (List.mem_of_getElem? (i := 18) rfl)
theorem m_67 : Cond.static yJ7_fill_d0a16 ∈ wAll := inA_wA_2 _ (List.mem_of_getElem? (i := 19) rfl)
theorem m_68 : Cond.code yX5_lay cX5_lay 3 none ∈ wAll := inA_wA_2 _ (List.mem_of_getElem? (i := 20) rfl)
theorem m_69 : Cond.code yX5_cut cX5_cut 3 (some .long) ∈ wAll := inA_wA_2 _ (List.mem_of_getElem? (i := 21) rfl)
theorem m_70 : Cond.fieldLink RX7 11 "CardBowl$Town" "introducers" "I" ∈ wAll := inA_wA_2 _ (List.mem_of_getElem? (i := 22) rfl)
theorem m_71 : Cond.fieldLink RX7 40 "CardBowl$Town" "told" "[I" ∈ wAll := inA_wA_2 _ (List.mem_of_getElem? (i := 23) rfl)
theorem m_72 : Cond.methodLink RX7 49 yJ7_fill_53178 ∈ wAll := inA_wA_3 _ (List.mem_of_getElem? (i := 0) rfl)
theorem m_73 : Cond.static yJ7_fill_53178 ∈ wAll := inA_wA_3 _ (List.mem_of_getElem? (i := 1) rfl)
theorem m_74 : Cond.code yX7_clear cX7_clear 1 none ∈ wAll := inA_wA_3 _ (List.mem_of_getElem? (i := 2) rfl)
theorem m_75 : Cond.methodLink RX7 55 arraycopyName ∈ wAll := inA_wA_3 _ (List.mem_of_getElem? (i := 3) rfl)
theorem m_76 : Cond.native arraycopyName ∈ wAll := inA_wA_3 _ (List.mem_of_getElem? (i := 4) rfl)
theorem m_77 : Cond.static arraycopyName ∈ wAll := inA_wA_3 _ (List.mem_of_getElem? (i := 5) rfl)
theorem m_78 : Cond.initialized "java/lang/System" ∈ wAll := inA_wA_3 _ (List.mem_of_getElem? (i := 6) rfl)
theorem m_79 : Cond.fieldLink RX7 22 "CardBowl$Town" "rank" "[I" ∈ wAll := inA_wA_3 _ (List.mem_of_getElem? (i := 7) rfl)
theorem m_80 : Cond.fieldLink RX7 25 "CardBowl$Town" "weekday" "[I" ∈ wAll := inA_wA_3 _ (List.mem_of_getElem? (i := 8) rfl)
theorem m_81 : Cond.fieldLink RX7 28 "CardBowl$Town" "from" "[I" ∈ wAll := inA_wA_3 _ (List.mem_of_getElem? (i := 9) rfl)
theorem m_82 : Cond.fieldLink RX7 31 "CardBowl$Town" "to" "[I" ∈ wAll := inA_wA_3 _ (List.mem_of_getElem? (i := 10) rfl)
theorem m_83 : Cond.code yX7_copy cX7_copy 2 none ∈ wAll := inA_wA_3 _ (List.mem_of_getElem? (i := 11) rfl)
theorem m_84 : Cond.fieldLink RX0 9 "CardBowl$Code" "paying" "[I" ∈ wAll := inA_wA_3 _ (List.mem_of_getElem? (i := 12) rfl)
theorem m_85 : Cond.methodLink RX0 40 arraycopyName ∈ wAll := inA_wA_3 _ (List.mem_of_getElem? (i := 13) rfl)
theorem m_86 : Cond.fieldLink RX0 15 "CardBowl$Code" "kind" "[I" ∈ wAll := inA_wA_3 _ (List.mem_of_getElem? (i := 14) rfl)
theorem m_87 : Cond.fieldLink RX0 18 "CardBowl$Code" "within" "[I" ∈ wAll := inA_wA_3 _ (List.mem_of_getElem? (i := 15) rfl)
theorem m_88 : Cond.fieldLink RX0 21 "CardBowl$Code" "start" "[I" ∈ wAll := inA_wA_3 _ (List.mem_of_getElem? (i := 16) rfl)
theorem m_89 : Cond.fieldLink RX0 24 "CardBowl$Code" "stop" "[I" ∈ wAll := inA_wA_3 _ (List.mem_of_getElem? (i := 17) rfl)
theorem m_90 : Cond.code yX0_copy cX0_copy 2 none ∈ wAll := inA_wA_3 _ (List.mem_of_getElem? (i := 18) rfl)
theorem m_91 : Cond.constantLong RX0 72 (1000000000) ∈ wAll := inA_wA_3 _ (List.mem_of_getElem? (i := 19) rfl)
theorem m_92 : Cond.constantLong RX0 74 (-1000000000) ∈ wAll := inA_wA_3 _ (List.mem_of_getElem? (i := 20) rfl)
theorem m_93 : Cond.fieldLink RX0 56 "CardBowl$Code" "beyond" "Z" ∈ wAll := inA_wA_3 _ (List.mem_of_getElem? (i := 21) rfl)
theorem m_94 : Cond.code yX0_bounded cX0_bounded 3 (some .long) ∈ wAll := inA_wA_3 _ (List.mem_of_getElem? (i := 22) rfl)
theorem m_95 : Cond.code yX0_compares cX0_compares 5 (some .boolean) ∈ wAll := inA_wA_3 _ (List.mem_of_getElem? (i := 23) rfl)
theorem m_96 : Cond.methodLink RX0 50 Lib.Math.min.name ∈ wAll := inA_wA_4 _ (List.mem_of_getElem? (i := 0) rfl)
theorem m_97 : Cond.static Lib.Math.min.name ∈ wAll := inA_wA_4 _ (List.mem_of_getElem? (i := 1) rfl)
theorem m_98 : Cond.code Lib.Math.min.name Lib.Math.min.code 2 (some .int) ∈ wAll := inA_wA_4 _ (List.mem_of_getElem? (i := 2) rfl)
theorem m_99 : Cond.initialized RX0 ∈ wAll := inA_wA_4 _ (List.mem_of_getElem? (i := 3) rfl)
theorem m_100 : Cond.methodLink RX0 60 yX0_partOf ∈ wAll := inA_wA_4 _ (List.mem_of_getElem? (i := 4) rfl)
theorem m_101 : Cond.instanceMethod yX0_partOf ∈ wAll := inA_wA_4 _ (List.mem_of_getElem? (i := 5) rfl)
theorem m_102 : Cond.selects RX0 yX0_partOf yX0_partOf ∈ wAll := inA_wA_4 _ (List.mem_of_getElem? (i := 6) rfl)
theorem m_103 : Cond.methodLink RX0 64 yX0_bounded ∈ wAll := inA_wA_4 _ (List.mem_of_getElem? (i := 7) rfl)
theorem m_104 : Cond.instanceMethod yX0_bounded ∈ wAll := inA_wA_4 _ (List.mem_of_getElem? (i := 8) rfl)
theorem m_105 : Cond.selects RX0 yX0_bounded yX0_bounded ∈ wAll := inA_wA_4 _ (List.mem_of_getElem? (i := 9) rfl)
theorem m_106 : Cond.methodLink RX0 68 yX0_compares ∈ wAll := inA_wA_4 _ (List.mem_of_getElem? (i := 10) rfl)
theorem m_107 : Cond.static yX0_compares ∈ wAll := inA_wA_4 _ (List.mem_of_getElem? (i := 11) rfl)
theorem m_108 : Cond.code yX0_holds cX0_holds 13 (some .boolean) ∈ wAll := inA_wA_4 _ (List.mem_of_getElem? (i := 12) rfl)
theorem m_109 : Cond.methodLink RX0 46 yX0_holds ∈ wAll := inA_wA_4 _ (List.mem_of_getElem? (i := 13) rfl)
theorem m_110 : Cond.instanceMethod yX0_holds ∈ wAll := inA_wA_4 _ (List.mem_of_getElem? (i := 14) rfl)
theorem m_111 : Cond.selects RX0 yX0_holds yX0_holds ∈ wAll := inA_wA_4 _ (List.mem_of_getElem? (i := 15) rfl)
theorem m_112 : Cond.code yX0_lineFor cX0_lineFor 8 (some .int) ∈ wAll := inA_wA_4 _ (List.mem_of_getElem? (i := 16) rfl)
theorem m_113 : Cond.methodLink RX1 37 yJ7_fill_53178 ∈ wAll := inA_wA_4 _ (List.mem_of_getElem? (i := 17) rfl)
theorem m_114 : Cond.code yX1_clear cX1_clear 1 none ∈ wAll := inA_wA_4 _ (List.mem_of_getElem? (i := 18) rfl)
theorem m_115 : Cond.methodLink RX1 43 arraycopyName ∈ wAll := inA_wA_4 _ (List.mem_of_getElem? (i := 19) rfl)
theorem m_116 : Cond.code yX1_copy cX1_copy 2 none ∈ wAll := inA_wA_4 _ (List.mem_of_getElem? (i := 20) rfl)
theorem m_117 : Cond.initialized RX1 ∈ wAll := inA_wA_4 _ (List.mem_of_getElem? (i := 21) rfl)
theorem m_118 : Cond.methodLink RX1 49 yX1_kindsOf ∈ wAll := inA_wA_4 _ (List.mem_of_getElem? (i := 22) rfl)
theorem m_119 : Cond.instanceMethod yX1_kindsOf ∈ wAll := inA_wA_4 _ (List.mem_of_getElem? (i := 23) rfl)
theorem m_120 : Cond.selects RX1 yX1_kindsOf yX1_kindsOf ∈ wAll := inA_wA_5 _ (List.mem_of_getElem? (i := 0) rfl)
theorem m_121 : Cond.methodLink RX1 53 yX1_move ∈ wAll := inA_wA_5 _ (List.mem_of_getElem? (i := 1) rfl)
theorem m_122 : Cond.instanceMethod yX1_move ∈ wAll := inA_wA_5 _ (List.mem_of_getElem? (i := 2) rfl)
theorem m_123 : Cond.selects RX1 yX1_move yX1_move ∈ wAll := inA_wA_5 _ (List.mem_of_getElem? (i := 3) rfl)
theorem m_124 : Cond.code yX1_settle cX1_settle 7 (some .int) ∈ wAll := inA_wA_5 _ (List.mem_of_getElem? (i := 4) rfl)
theorem m_125 : Cond.methodLink RX2 28 arraycopyName ∈ wAll := inA_wA_5 _ (List.mem_of_getElem? (i := 5) rfl)
theorem m_126 : Cond.code yX2_copy cX2_copy 2 none ∈ wAll := inA_wA_5 _ (List.mem_of_getElem? (i := 6) rfl)
theorem m_127 : Cond.fieldLink RX6 39 "CardBowl$State" "knows" "[I" ∈ wAll := inA_wA_5 _ (List.mem_of_getElem? (i := 7) rfl)
theorem m_128 : Cond.code yX6_knew cX6_knew 3 (some .int) ∈ wAll := inA_wA_5 _ (List.mem_of_getElem? (i := 8) rfl)
theorem m_129 : Cond.code yX6_acquaint cX6_acquaint 3 none ∈ wAll := inA_wA_5 _ (List.mem_of_getElem? (i := 9) rfl)
theorem m_130 : Cond.initialized RX6 ∈ wAll := inA_wA_5 _ (List.mem_of_getElem? (i := 10) rfl)
theorem m_131 : Cond.methodLink RX6 94 yX6_knew ∈ wAll := inA_wA_5 _ (List.mem_of_getElem? (i := 11) rfl)
theorem m_132 : Cond.instanceMethod yX6_knew ∈ wAll := inA_wA_5 _ (List.mem_of_getElem? (i := 12) rfl)
theorem m_133 : Cond.selects RX6 yX6_knew yX6_knew ∈ wAll := inA_wA_5 _ (List.mem_of_getElem? (i := 13) rfl)
theorem m_134 : Cond.fieldLink RX6 12 "CardBowl$State" "town" "LCardBowl$Town;" ∈ wAll := inA_wA_5 _ (List.mem_of_getElem? (i := 14) rfl)
theorem m_135 : Cond.fieldLink RX6 69 "CardBowl$State" "day" "I" ∈ wAll := inA_wA_5 _ (List.mem_of_getElem? (i := 15) rfl)
theorem m_136 : Cond.methodLink RX6 98 yX7_isNew ∈ wAll := inA_wA_5 _ (List.mem_of_getElem? (i := 16) rfl)
theorem m_137 : Cond.instanceMethod yX7_isNew ∈ wAll := inA_wA_5 _ (List.mem_of_getElem? (i := 17) rfl)
theorem m_138 : Cond.selects RX7 yX7_isNew yX7_isNew ∈ wAll := inA_wA_5 _ (List.mem_of_getElem? (i := 18) rfl)
theorem m_139 : Cond.initialized RJ6 ∈ wAll := inA_wA_5 _ (List.mem_of_getElem? (i := 19) rfl)
theorem m_140 : Cond.methodLink RX6 101 yJ6_bitCount_0f7a4 ∈ wAll := inA_wA_5 _ (List.mem_of_getElem? (i := 20) rfl)
theorem m_141 : Cond.static yJ6_bitCount_0f7a4 ∈ wAll := inA_wA_5 _ (List.mem_of_getElem? (i := 21) rfl)
theorem m_142 : Cond.fieldLink RX6 107 "CardBowl$Town" "introducers" "I" ∈ wAll := inA_wA_5 _ (List.mem_of_getElem? (i := 22) rfl)
theorem m_143 : Cond.code yX6_isOpenTo cX6_isOpenTo 3 (some .boolean) ∈ wAll := inA_wA_5 _ (List.mem_of_getElem? (i := 23) rfl)
theorem m_144 : Cond.methodLink RX6 81 yX7_isThere ∈ wAll := inA_wA_6 _ (List.mem_of_getElem? (i := 0) rfl)
theorem m_145 : Cond.instanceMethod yX7_isThere ∈ wAll := inA_wA_6 _ (List.mem_of_getElem? (i := 1) rfl)
theorem m_146 : Cond.selects RX7 yX7_isThere yX7_isThere ∈ wAll := inA_wA_6 _ (List.mem_of_getElem? (i := 2) rfl)
theorem m_147 : Cond.methodLink RX6 85 yX6_isOpenTo ∈ wAll := inA_wA_6 _ (List.mem_of_getElem? (i := 3) rfl)
theorem m_148 : Cond.instanceMethod yX6_isOpenTo ∈ wAll := inA_wA_6 _ (List.mem_of_getElem? (i := 4) rfl)
theorem m_149 : Cond.selects RX6 yX6_isOpenTo yX6_isOpenTo ∈ wAll := inA_wA_6 _ (List.mem_of_getElem? (i := 5) rfl)
theorem m_150 : Cond.fieldLink RX6 88 "CardBowl$Town" "weekday" "[I" ∈ wAll := inA_wA_6 _ (List.mem_of_getElem? (i := 6) rfl)
theorem m_151 : Cond.methodLink RX6 91 yX7_waits ∈ wAll := inA_wA_6 _ (List.mem_of_getElem? (i := 7) rfl)
theorem m_152 : Cond.instanceMethod yX7_waits ∈ wAll := inA_wA_6 _ (List.mem_of_getElem? (i := 8) rfl)
theorem m_153 : Cond.selects RX7 yX7_waits yX7_waits ∈ wAll := inA_wA_6 _ (List.mem_of_getElem? (i := 9) rfl)
theorem m_154 : Cond.code yX6_barrier cX6_barrier 4 (some .int) ∈ wAll := inA_wA_6 _ (List.mem_of_getElem? (i := 10) rfl)
theorem m_155 : Cond.methodLink RX6 154 yX1_kindsOf ∈ wAll := inA_wA_6 _ (List.mem_of_getElem? (i := 11) rfl)
theorem m_156 : Cond.code yX6_isOwed cX6_isOwed 4 (some .boolean) ∈ wAll := inA_wA_6 _ (List.mem_of_getElem? (i := 12) rfl)
theorem m_157 : Cond.methodLink RX6 122 yX1_settle ∈ wAll := inA_wA_6 _ (List.mem_of_getElem? (i := 13) rfl)
theorem m_158 : Cond.instanceMethod yX1_settle ∈ wAll := inA_wA_6 _ (List.mem_of_getElem? (i := 14) rfl)
theorem m_159 : Cond.selects RX1 yX1_settle yX1_settle ∈ wAll := inA_wA_6 _ (List.mem_of_getElem? (i := 15) rfl)
theorem m_160 : Cond.fieldLink RX6 126 "CardBowl$Town" "rank" "[I" ∈ wAll := inA_wA_6 _ (List.mem_of_getElem? (i := 16) rfl)
theorem m_161 : Cond.fieldLink RX6 129 "CardBowl$Debts" "open" "[I" ∈ wAll := inA_wA_6 _ (List.mem_of_getElem? (i := 17) rfl)
theorem m_162 : Cond.methodLink RX6 132 yX0_lineFor ∈ wAll := inA_wA_6 _ (List.mem_of_getElem? (i := 18) rfl)
theorem m_163 : Cond.instanceMethod yX0_lineFor ∈ wAll := inA_wA_6 _ (List.mem_of_getElem? (i := 19) rfl)
theorem m_164 : Cond.selects RX0 yX0_lineFor yX0_lineFor ∈ wAll := inA_wA_6 _ (List.mem_of_getElem? (i := 20) rfl)
theorem m_165 : Cond.fieldLink RX6 136 "CardBowl$Code" "kind" "[I" ∈ wAll := inA_wA_6 _ (List.mem_of_getElem? (i := 21) rfl)
theorem m_166 : Cond.methodLink RX6 139 yX6_isOwed ∈ wAll := inA_wA_6 _ (List.mem_of_getElem? (i := 22) rfl)
theorem m_167 : Cond.static yX6_isOwed ∈ wAll := inA_wA_6 _ (List.mem_of_getElem? (i := 23) rfl)
theorem m_168 : Cond.fieldLink RX6 143 "CardBowl$Code" "within" "[I" ∈ wAll := inA_wA_7 _ (List.mem_of_getElem? (i := 0) rfl)
theorem m_169 : Cond.methodLink RX6 146 Lib.Math.min.name ∈ wAll := inA_wA_7 _ (List.mem_of_getElem? (i := 1) rfl)
theorem m_170 : Cond.methodLink RX6 151 yX1_add ∈ wAll := inA_wA_7 _ (List.mem_of_getElem? (i := 2) rfl)
theorem m_171 : Cond.instanceMethod yX1_add ∈ wAll := inA_wA_7 _ (List.mem_of_getElem? (i := 3) rfl)
theorem m_172 : Cond.selects RX1 yX1_add yX1_add ∈ wAll := inA_wA_7 _ (List.mem_of_getElem? (i := 4) rfl)
theorem m_173 : Cond.code yX6_deal cX6_deal 10 (some .int) ∈ wAll := inA_wA_7 _ (List.mem_of_getElem? (i := 5) rfl)
theorem m_174 : Cond.fieldLink RX6 28 "CardBowl$State" "debts" "LCardBowl$Debts;" ∈ wAll := inA_wA_7 _ (List.mem_of_getElem? (i := 6) rfl)
theorem m_175 : Cond.fieldLink RX6 21 "CardBowl$State" "code" "LCardBowl$Code;" ∈ wAll := inA_wA_7 _ (List.mem_of_getElem? (i := 7) rfl)
theorem m_176 : Cond.methodLink RX6 110 yX6_deal ∈ wAll := inA_wA_7 _ (List.mem_of_getElem? (i := 8) rfl)
theorem m_177 : Cond.instanceMethod yX6_deal ∈ wAll := inA_wA_7 _ (List.mem_of_getElem? (i := 9) rfl)
theorem m_178 : Cond.selects RX6 yX6_deal yX6_deal ∈ wAll := inA_wA_7 _ (List.mem_of_getElem? (i := 10) rfl)
theorem m_179 : Cond.fieldLink RX6 72 "CardBowl$State" "paid" "I" ∈ wAll := inA_wA_7 _ (List.mem_of_getElem? (i := 11) rfl)
theorem m_180 : Cond.fieldLink RX6 35 "CardBowl$State" "deeds" "LCardBowl$Deeds;" ∈ wAll := inA_wA_7 _ (List.mem_of_getElem? (i := 12) rfl)
theorem m_181 : Cond.initialized RX2 ∈ wAll := inA_wA_7 _ (List.mem_of_getElem? (i := 13) rfl)
theorem m_182 : Cond.methodLink RX6 114 yX2_add ∈ wAll := inA_wA_7 _ (List.mem_of_getElem? (i := 14) rfl)
theorem m_183 : Cond.instanceMethod yX2_add ∈ wAll := inA_wA_7 _ (List.mem_of_getElem? (i := 15) rfl)
theorem m_184 : Cond.selects RX2 yX2_add yX2_add ∈ wAll := inA_wA_7 _ (List.mem_of_getElem? (i := 16) rfl)
theorem m_185 : Cond.methodLink RX6 118 yX6_acquaint ∈ wAll := inA_wA_7 _ (List.mem_of_getElem? (i := 17) rfl)
theorem m_186 : Cond.static yX6_acquaint ∈ wAll := inA_wA_7 _ (List.mem_of_getElem? (i := 18) rfl)
theorem m_187 : Cond.code yX6_act cX6_act 5 (some .int) ∈ wAll := inA_wA_7 _ (List.mem_of_getElem? (i := 19) rfl)
theorem m_188 : Cond.code yX6_chance cX6_chance 4 (some .int) ∈ wAll := inA_wA_7 _ (List.mem_of_getElem? (i := 20) rfl)
theorem m_189 : Cond.code yX6_wouldMake cX6_wouldMake 5 (some .int) ∈ wAll := inA_wA_7 _ (List.mem_of_getElem? (i := 21) rfl)
theorem m_190 : Cond.methodLink RX6 53 yX1_clear ∈ wAll := inA_wA_7 _ (List.mem_of_getElem? (i := 22) rfl)
theorem m_191 : Cond.instanceMethod yX1_clear ∈ wAll := inA_wA_7 _ (List.mem_of_getElem? (i := 23) rfl)
theorem m_192 : Cond.selects RX1 yX1_clear yX1_clear ∈ wAll := inA_wA_8 _ (List.mem_of_getElem? (i := 0) rfl)
theorem m_193 : Cond.fieldLink RX6 60 "CardBowl$Town" "told" "[I" ∈ wAll := inA_wA_8 _ (List.mem_of_getElem? (i := 1) rfl)
theorem m_194 : Cond.methodLink RX6 63 arraycopyName ∈ wAll := inA_wA_8 _ (List.mem_of_getElem? (i := 2) rfl)
theorem m_195 : Cond.fieldLink RX6 56 "CardBowl$Deeds" "size" "I" ∈ wAll := inA_wA_8 _ (List.mem_of_getElem? (i := 3) rfl)
theorem m_196 : Cond.fieldLink RX6 157 "CardBowl$Deeds" "who" "[I" ∈ wAll := inA_wA_8 _ (List.mem_of_getElem? (i := 4) rfl)
theorem m_197 : Cond.fieldLink RX6 160 "CardBowl$Deeds" "whom" "[I" ∈ wAll := inA_wA_8 _ (List.mem_of_getElem? (i := 5) rfl)
theorem m_198 : Cond.fieldLink RX6 163 "CardBowl$Deeds" "what" "[I" ∈ wAll := inA_wA_8 _ (List.mem_of_getElem? (i := 6) rfl)
theorem m_199 : Cond.fieldLink RX6 166 "CardBowl$Deeds" "day" "[I" ∈ wAll := inA_wA_8 _ (List.mem_of_getElem? (i := 7) rfl)
theorem m_200 : Cond.code yX6_replay cX6_replay 8 none ∈ wAll := inA_wA_8 _ (List.mem_of_getElem? (i := 8) rfl)
theorem m_201 : Cond.code yX6_hanging cX6_hanging 8 (some .int) ∈ wAll := inA_wA_8 _ (List.mem_of_getElem? (i := 9) rfl)
theorem m_202 : Cond.methodLink RX6 168 yX6_hanging ∈ wAll := inA_wA_8 _ (List.mem_of_getElem? (i := 10) rfl)
theorem m_203 : Cond.instanceMethod yX6_hanging ∈ wAll := inA_wA_8 _ (List.mem_of_getElem? (i := 11) rfl)
theorem m_204 : Cond.selects RX6 yX6_hanging yX6_hanging ∈ wAll := inA_wA_8 _ (List.mem_of_getElem? (i := 12) rfl)
theorem m_205 : Cond.code yX6_holdsTogether cX6_holdsTogether 3 (some .boolean) ∈ wAll := inA_wA_8 _ (List.mem_of_getElem? (i := 13) rfl)
theorem m_206 : Cond.methodLink RX6 171 yX6_holdsTogether ∈ wAll := inA_wA_8 _ (List.mem_of_getElem? (i := 14) rfl)
theorem m_207 : Cond.instanceMethod yX6_holdsTogether ∈ wAll := inA_wA_8 _ (List.mem_of_getElem? (i := 15) rfl)
theorem m_208 : Cond.selects RX6 yX6_holdsTogether yX6_holdsTogether ∈ wAll := inA_wA_8 _ (List.mem_of_getElem? (i := 16) rfl)
theorem m_209 : Cond.code yX6_canDrop cX6_canDrop 3 (some .boolean) ∈ wAll := inA_wA_8 _ (List.mem_of_getElem? (i := 17) rfl)
theorem m_210 : Cond.fieldLink RX6 43 "CardBowl$State" "follows" "[I" ∈ wAll := inA_wA_8 _ (List.mem_of_getElem? (i := 18) rfl)
theorem m_211 : Cond.code yX6_followCalls cX6_followCalls 3 none ∈ wAll := inA_wA_8 _ (List.mem_of_getElem? (i := 19) rfl)
theorem m_212 : Cond.code yX6_ringBits cX6_ringBits 4 (some .int) ∈ wAll := inA_wA_8 _ (List.mem_of_getElem? (i := 20) rfl)
theorem m_213 : Cond.methodLink RX6 46 yX7_copy ∈ wAll := inA_wA_8 _ (List.mem_of_getElem? (i := 21) rfl)
theorem m_214 : Cond.instanceMethod yX7_copy ∈ wAll := inA_wA_8 _ (List.mem_of_getElem? (i := 22) rfl)
theorem m_215 : Cond.selects RX7 yX7_copy yX7_copy ∈ wAll := inA_wA_8 _ (List.mem_of_getElem? (i := 23) rfl)
theorem m_216 : Cond.methodLink RX6 50 yX0_copy ∈ wAll := inA_wA_9 _ (List.mem_of_getElem? (i := 0) rfl)
theorem m_217 : Cond.instanceMethod yX0_copy ∈ wAll := inA_wA_9 _ (List.mem_of_getElem? (i := 1) rfl)
theorem m_218 : Cond.selects RX0 yX0_copy yX0_copy ∈ wAll := inA_wA_9 _ (List.mem_of_getElem? (i := 2) rfl)
theorem m_219 : Cond.code yX6_begin cX6_begin 3 none ∈ wAll := inA_wA_9 _ (List.mem_of_getElem? (i := 3) rfl)
theorem m_220 : Cond.methodLink RX6 75 yX1_copy ∈ wAll := inA_wA_9 _ (List.mem_of_getElem? (i := 4) rfl)
theorem m_221 : Cond.instanceMethod yX1_copy ∈ wAll := inA_wA_9 _ (List.mem_of_getElem? (i := 5) rfl)
theorem m_222 : Cond.selects RX1 yX1_copy yX1_copy ∈ wAll := inA_wA_9 _ (List.mem_of_getElem? (i := 6) rfl)
theorem m_223 : Cond.methodLink RX6 78 yX2_copy ∈ wAll := inA_wA_9 _ (List.mem_of_getElem? (i := 7) rfl)
theorem m_224 : Cond.instanceMethod yX2_copy ∈ wAll := inA_wA_9 _ (List.mem_of_getElem? (i := 8) rfl)
theorem m_225 : Cond.selects RX2 yX2_copy yX2_copy ∈ wAll := inA_wA_9 _ (List.mem_of_getElem? (i := 9) rfl)
theorem m_226 : Cond.code yX6_copy cX6_copy 2 none ∈ wAll := inA_wA_9 _ (List.mem_of_getElem? (i := 10) rfl)
theorem m_227 : Cond.fieldLink RX4 67 "CardBowl$State" "debts" "LCardBowl$Debts;" ∈ wAll := inA_wA_9 _ (List.mem_of_getElem? (i := 11) rfl)
theorem m_228 : Cond.methodLink RX4 71 yX1_kindsOf ∈ wAll := inA_wA_9 _ (List.mem_of_getElem? (i := 12) rfl)
theorem m_229 : Cond.code yX4_isByCall cX4_isByCall 3 (some .boolean) ∈ wAll := inA_wA_9 _ (List.mem_of_getElem? (i := 13) rfl)
theorem m_230 : Cond.initialized RX4 ∈ wAll := inA_wA_9 _ (List.mem_of_getElem? (i := 14) rfl)
theorem m_231 : Cond.methodLink RX4 108 yX4_isByCall ∈ wAll := inA_wA_9 _ (List.mem_of_getElem? (i := 15) rfl)
theorem m_232 : Cond.static yX4_isByCall ∈ wAll := inA_wA_9 _ (List.mem_of_getElem? (i := 16) rfl)
theorem m_233 : Cond.fieldLink RX4 56 "CardBowl$State" "town" "LCardBowl$Town;" ∈ wAll := inA_wA_9 _ (List.mem_of_getElem? (i := 17) rfl)
theorem m_234 : Cond.fieldLink RX4 118 "CardBowl$Town" "weekday" "[I" ∈ wAll := inA_wA_9 _ (List.mem_of_getElem? (i := 18) rfl)
theorem m_235 : Cond.code yX4_isAtHome cX4_isAtHome 4 (some .boolean) ∈ wAll := inA_wA_9 _ (List.mem_of_getElem? (i := 19) rfl)
theorem m_236 : Cond.fieldLink RX4 28 "CardBowl$Rounds" "opens" "[I" ∈ wAll := inA_wA_9 _ (List.mem_of_getElem? (i := 20) rfl)
theorem m_237 : Cond.fieldLink RX4 112 "CardBowl$Town" "from" "[I" ∈ wAll := inA_wA_9 _ (List.mem_of_getElem? (i := 21) rfl)
theorem m_238 : Cond.fieldLink RX4 31 "CardBowl$Rounds" "closes" "[I" ∈ wAll := inA_wA_9 _ (List.mem_of_getElem? (i := 22) rfl)
theorem m_239 : Cond.fieldLink RX4 115 "CardBowl$Town" "to" "[I" ∈ wAll := inA_wA_9 _ (List.mem_of_getElem? (i := 23) rfl)
theorem m_240 : Cond.fieldLink RX4 34 "CardBowl$Rounds" "stays" "[I" ∈ wAll := inA_wA_10 _ (List.mem_of_getElem? (i := 0) rfl)
theorem m_241 : Cond.code yX4_lookAt cX4_lookAt 5 none ∈ wAll := inA_wA_10 _ (List.mem_of_getElem? (i := 1) rfl)
theorem m_242 : Cond.fieldLink RX4 53 "CardBowl$Rounds" "spots" "I" ∈ wAll := inA_wA_10 _ (List.mem_of_getElem? (i := 2) rfl)
theorem m_243 : Cond.fieldLink RX4 22 "CardBowl$Rounds" "spot" "[I" ∈ wAll := inA_wA_10 _ (List.mem_of_getElem? (i := 3) rfl)
theorem m_244 : Cond.methodLink RX4 101 yX4_lookAt ∈ wAll := inA_wA_10 _ (List.mem_of_getElem? (i := 4) rfl)
theorem m_245 : Cond.instanceMethod yX4_lookAt ∈ wAll := inA_wA_10 _ (List.mem_of_getElem? (i := 5) rfl)
theorem m_246 : Cond.selects RX4 yX4_lookAt yX4_lookAt ∈ wAll := inA_wA_10 _ (List.mem_of_getElem? (i := 6) rfl)
theorem m_247 : Cond.fieldLink RX4 37 "CardBowl$Rounds" "apart" "[I" ∈ wAll := inA_wA_10 _ (List.mem_of_getElem? (i := 7) rfl)
theorem m_248 : Cond.methodLink RX4 105 yX7_minutes ∈ wAll := inA_wA_10 _ (List.mem_of_getElem? (i := 8) rfl)
theorem m_249 : Cond.instanceMethod yX7_minutes ∈ wAll := inA_wA_10 _ (List.mem_of_getElem? (i := 9) rfl)
theorem m_250 : Cond.selects RX7 yX7_minutes yX7_minutes ∈ wAll := inA_wA_10 _ (List.mem_of_getElem? (i := 10) rfl)
theorem m_251 : Cond.code yX4_lookAtSpots cX4_lookAtSpots 6 none ∈ wAll := inA_wA_10 _ (List.mem_of_getElem? (i := 11) rfl)
theorem m_252 : Cond.fieldLink RX4 15 "CardBowl$Rounds" "owner" "I" ∈ wAll := inA_wA_10 _ (List.mem_of_getElem? (i := 12) rfl)
theorem m_253 : Cond.methodLink RX4 120 yX4_isAtHome ∈ wAll := inA_wA_10 _ (List.mem_of_getElem? (i := 13) rfl)
theorem m_254 : Cond.static yX4_isAtHome ∈ wAll := inA_wA_10 _ (List.mem_of_getElem? (i := 14) rfl)
theorem m_255 : Cond.code yX4_openSpots cX4_openSpots 5 (some .int) ∈ wAll := inA_wA_10 _ (List.mem_of_getElem? (i := 15) rfl)
theorem m_256 : Cond.methodLink RX4 124 Lib.Math.max.name ∈ wAll := inA_wA_10 _ (List.mem_of_getElem? (i := 16) rfl)
theorem m_257 : Cond.static Lib.Math.max.name ∈ wAll := inA_wA_10 _ (List.mem_of_getElem? (i := 17) rfl)
theorem m_258 : Cond.code Lib.Math.max.name Lib.Math.max.code 2 (some .int) ∈ wAll := inA_wA_10 _ (List.mem_of_getElem? (i := 18) rfl)
theorem m_259 : Cond.code yX4_seen cX4_seen 4 (some .int) ∈ wAll := inA_wA_10 _ (List.mem_of_getElem? (i := 19) rfl)
theorem m_260 : Cond.fieldLink RX4 43 "CardBowl$Rounds" "soonest" "[I" ∈ wAll := inA_wA_10 _ (List.mem_of_getElem? (i := 20) rfl)
theorem m_261 : Cond.fieldLink RX4 40 "CardBowl$Rounds" "minute" "[I" ∈ wAll := inA_wA_10 _ (List.mem_of_getElem? (i := 21) rfl)
theorem m_262 : Cond.methodLink RX4 136 Lib.Math.min.name ∈ wAll := inA_wA_10 _ (List.mem_of_getElem? (i := 22) rfl)
theorem m_263 : Cond.code yX4_arrival cX4_arrival 7 (some .int) ∈ wAll := inA_wA_10 _ (List.mem_of_getElem? (i := 23) rfl)
theorem m_264 : Cond.methodLink RX4 129 yX4_arrival ∈ wAll := inA_wA_11 _ (List.mem_of_getElem? (i := 0) rfl)
theorem m_265 : Cond.instanceMethod yX4_arrival ∈ wAll := inA_wA_11 _ (List.mem_of_getElem? (i := 1) rfl)
theorem m_266 : Cond.selects RX4 yX4_arrival yX4_arrival ∈ wAll := inA_wA_11 _ (List.mem_of_getElem? (i := 2) rfl)
theorem m_267 : Cond.methodLink RX4 133 yX4_seen ∈ wAll := inA_wA_11 _ (List.mem_of_getElem? (i := 3) rfl)
theorem m_268 : Cond.instanceMethod yX4_seen ∈ wAll := inA_wA_11 _ (List.mem_of_getElem? (i := 4) rfl)
theorem m_269 : Cond.selects RX4 yX4_seen yX4_seen ∈ wAll := inA_wA_11 _ (List.mem_of_getElem? (i := 5) rfl)
theorem m_270 : Cond.code yX4_reckonMinutes cX4_reckonMinutes 8 none ∈ wAll := inA_wA_11 _ (List.mem_of_getElem? (i := 6) rfl)
theorem m_271 : Cond.code yX4_worthOf cX4_worthOf 3 (some .int) ∈ wAll := inA_wA_11 _ (List.mem_of_getElem? (i := 7) rfl)
theorem m_272 : Cond.fieldLink RX4 139 "CardBowl$Rounds" "bestWorth" "I" ∈ wAll := inA_wA_11 _ (List.mem_of_getElem? (i := 8) rfl)
theorem m_273 : Cond.fieldLink RX4 92 "CardBowl$Rounds" "bestOver" "I" ∈ wAll := inA_wA_11 _ (List.mem_of_getElem? (i := 9) rfl)
theorem m_274 : Cond.fieldLink RX4 46 "CardBowl$Rounds" "sums" "[I" ∈ wAll := inA_wA_11 _ (List.mem_of_getElem? (i := 10) rfl)
theorem m_275 : Cond.methodLink RX4 142 yJ6_numberOfTrailingZeros_0f7a4 ∈ wAll := inA_wA_11 _ (List.mem_of_getElem? (i := 11) rfl)
theorem m_276 : Cond.static yJ6_numberOfTrailingZeros_0f7a4 ∈ wAll := inA_wA_11 _ (List.mem_of_getElem? (i := 12) rfl)
theorem m_277 : Cond.methodLink RX4 148 yX4_worthOf ∈ wAll := inA_wA_11 _ (List.mem_of_getElem? (i := 13) rfl)
theorem m_278 : Cond.static yX4_worthOf ∈ wAll := inA_wA_11 _ (List.mem_of_getElem? (i := 14) rfl)
theorem m_279 : Cond.code yX4_bestSet cX4_bestSet 8 (some .int) ∈ wAll := inA_wA_11 _ (List.mem_of_getElem? (i := 15) rfl)
theorem m_280 : Cond.code yX4_latest cX4_latest 8 (some .int) ∈ wAll := inA_wA_11 _ (List.mem_of_getElem? (i := 16) rfl)
theorem m_281 : Cond.methodLink RX4 151 yX4_latest ∈ wAll := inA_wA_11 _ (List.mem_of_getElem? (i := 17) rfl)
theorem m_282 : Cond.instanceMethod yX4_latest ∈ wAll := inA_wA_11 _ (List.mem_of_getElem? (i := 18) rfl)
theorem m_283 : Cond.selects RX4 yX4_latest yX4_latest ∈ wAll := inA_wA_11 _ (List.mem_of_getElem? (i := 19) rfl)
theorem m_284 : Cond.code yX4_reckonLatest cX4_reckonLatest 5 none ∈ wAll := inA_wA_11 _ (List.mem_of_getElem? (i := 20) rfl)
theorem m_285 : Cond.fieldLink RX4 154 "CardBowl$Rounds" "length" "I" ∈ wAll := inA_wA_11 _ (List.mem_of_getElem? (i := 21) rfl)
theorem m_286 : Cond.fieldLink RX4 11 "CardBowl$Rounds" "order" "[I" ∈ wAll := inA_wA_11 _ (List.mem_of_getElem? (i := 22) rfl)
theorem m_287 : Cond.code yX4_putInOrder cX4_putInOrder 10 none ∈ wAll := inA_wA_11 _ (List.mem_of_getElem? (i := 23) rfl)
theorem m_288 : Cond.fieldLink RX4 49 "CardBowl$Rounds" "planned" "Z" ∈ wAll := inA_wA_12 _ (List.mem_of_getElem? (i := 0) rfl)
theorem m_289 : Cond.fieldLink RX4 19 "CardBowl$Rounds" "weekday" "I" ∈ wAll := inA_wA_12 _ (List.mem_of_getElem? (i := 1) rfl)
theorem m_290 : Cond.fieldLink RX4 62 "CardBowl$Town" "houses" "I" ∈ wAll := inA_wA_12 _ (List.mem_of_getElem? (i := 2) rfl)
theorem m_291 : Cond.methodLink RX4 77 yX4_lookAtSpots ∈ wAll := inA_wA_12 _ (List.mem_of_getElem? (i := 3) rfl)
theorem m_292 : Cond.instanceMethod yX4_lookAtSpots ∈ wAll := inA_wA_12 _ (List.mem_of_getElem? (i := 4) rfl)
theorem m_293 : Cond.selects RX4 yX4_lookAtSpots yX4_lookAtSpots ∈ wAll := inA_wA_12 _ (List.mem_of_getElem? (i := 5) rfl)
theorem m_294 : Cond.methodLink RX4 81 yX4_openSpots ∈ wAll := inA_wA_12 _ (List.mem_of_getElem? (i := 6) rfl)
theorem m_295 : Cond.instanceMethod yX4_openSpots ∈ wAll := inA_wA_12 _ (List.mem_of_getElem? (i := 7) rfl)
theorem m_296 : Cond.selects RX4 yX4_openSpots yX4_openSpots ∈ wAll := inA_wA_12 _ (List.mem_of_getElem? (i := 8) rfl)
theorem m_297 : Cond.methodLink RX4 85 yX4_reckonMinutes ∈ wAll := inA_wA_12 _ (List.mem_of_getElem? (i := 9) rfl)
theorem m_298 : Cond.instanceMethod yX4_reckonMinutes ∈ wAll := inA_wA_12 _ (List.mem_of_getElem? (i := 10) rfl)
theorem m_299 : Cond.selects RX4 yX4_reckonMinutes yX4_reckonMinutes ∈ wAll := inA_wA_12 _ (List.mem_of_getElem? (i := 11) rfl)
theorem m_300 : Cond.methodLink RX4 89 yX4_bestSet ∈ wAll := inA_wA_12 _ (List.mem_of_getElem? (i := 12) rfl)
theorem m_301 : Cond.instanceMethod yX4_bestSet ∈ wAll := inA_wA_12 _ (List.mem_of_getElem? (i := 13) rfl)
theorem m_302 : Cond.selects RX4 yX4_bestSet yX4_bestSet ∈ wAll := inA_wA_12 _ (List.mem_of_getElem? (i := 14) rfl)
theorem m_303 : Cond.methodLink RX4 95 yX4_reckonLatest ∈ wAll := inA_wA_12 _ (List.mem_of_getElem? (i := 15) rfl)
theorem m_304 : Cond.instanceMethod yX4_reckonLatest ∈ wAll := inA_wA_12 _ (List.mem_of_getElem? (i := 16) rfl)
theorem m_305 : Cond.selects RX4 yX4_reckonLatest yX4_reckonLatest ∈ wAll := inA_wA_12 _ (List.mem_of_getElem? (i := 17) rfl)
theorem m_306 : Cond.methodLink RX4 98 yX4_putInOrder ∈ wAll := inA_wA_12 _ (List.mem_of_getElem? (i := 18) rfl)
theorem m_307 : Cond.instanceMethod yX4_putInOrder ∈ wAll := inA_wA_12 _ (List.mem_of_getElem? (i := 19) rfl)
theorem m_308 : Cond.selects RX4 yX4_putInOrder yX4_putInOrder ∈ wAll := inA_wA_12 _ (List.mem_of_getElem? (i := 20) rfl)
theorem m_309 : Cond.code yX4_plan cX4_plan 5 none ∈ wAll := inA_wA_12 _ (List.mem_of_getElem? (i := 21) rfl)
theorem m_310 : Cond.fieldLink RX4 157 "CardBowl$Slot" "size" "I" ∈ wAll := inA_wA_12 _ (List.mem_of_getElem? (i := 22) rfl)
theorem m_311 : Cond.initialized RX5 ∈ wAll := inA_wA_12 _ (List.mem_of_getElem? (i := 23) rfl)
theorem m_312 : Cond.methodLink RX4 162 yX5_small ∈ wAll := inA_wA_13 _ (List.mem_of_getElem? (i := 0) rfl)
theorem m_313 : Cond.instanceMethod yX5_small ∈ wAll := inA_wA_13 _ (List.mem_of_getElem? (i := 1) rfl)
theorem m_314 : Cond.selects RX5 yX5_small yX5_small ∈ wAll := inA_wA_13 _ (List.mem_of_getElem? (i := 2) rfl)
theorem m_315 : Cond.methodLink RX4 165 yX7_has ∈ wAll := inA_wA_13 _ (List.mem_of_getElem? (i := 3) rfl)
theorem m_316 : Cond.code yX4_canWalk cX4_canWalk 10 (some .boolean) ∈ wAll := inA_wA_13 _ (List.mem_of_getElem? (i := 4) rfl)
theorem m_317 : Cond.methodLink RX4 181 yX1_nth ∈ wAll := inA_wA_13 _ (List.mem_of_getElem? (i := 5) rfl)
theorem m_318 : Cond.instanceMethod yX1_nth ∈ wAll := inA_wA_13 _ (List.mem_of_getElem? (i := 6) rfl)
theorem m_319 : Cond.selects RX1 yX1_nth yX1_nth ∈ wAll := inA_wA_13 _ (List.mem_of_getElem? (i := 7) rfl)
theorem m_320 : Cond.fieldLink RX4 184 "CardBowl$Debts" "creditor" "[I" ∈ wAll := inA_wA_13 _ (List.mem_of_getElem? (i := 8) rfl)
theorem m_321 : Cond.fieldLink RX4 25 "CardBowl$Rounds" "deadline" "[I" ∈ wAll := inA_wA_13 _ (List.mem_of_getElem? (i := 9) rfl)
theorem m_322 : Cond.fieldLink RX4 187 "CardBowl$Debts" "due" "[I" ∈ wAll := inA_wA_13 _ (List.mem_of_getElem? (i := 10) rfl)
theorem m_323 : Cond.code yX4_gatherDeadlines cX4_gatherDeadlines 7 none ∈ wAll := inA_wA_13 _ (List.mem_of_getElem? (i := 11) rfl)
theorem m_324 : Cond.code yX4_inTime cX4_inTime 4 (some .int) ∈ wAll := inA_wA_13 _ (List.mem_of_getElem? (i := 12) rfl)
theorem m_325 : Cond.code yX4_addDay cX4_addDay 6 none ∈ wAll := inA_wA_13 _ (List.mem_of_getElem? (i := 13) rfl)
theorem m_326 : Cond.methodLink RX4 169 yX4_gatherDeadlines ∈ wAll := inA_wA_13 _ (List.mem_of_getElem? (i := 14) rfl)
theorem m_327 : Cond.instanceMethod yX4_gatherDeadlines ∈ wAll := inA_wA_13 _ (List.mem_of_getElem? (i := 15) rfl)
theorem m_328 : Cond.selects RX4 yX4_gatherDeadlines yX4_gatherDeadlines ∈ wAll := inA_wA_13 _ (List.mem_of_getElem? (i := 16) rfl)
theorem m_329 : Cond.fieldLink RX4 172 "CardBowl$State" "day" "I" ∈ wAll := inA_wA_13 _ (List.mem_of_getElem? (i := 17) rfl)
theorem m_330 : Cond.methodLink RX4 175 yX4_inTime ∈ wAll := inA_wA_13 _ (List.mem_of_getElem? (i := 18) rfl)
theorem m_331 : Cond.instanceMethod yX4_inTime ∈ wAll := inA_wA_13 _ (List.mem_of_getElem? (i := 19) rfl)
theorem m_332 : Cond.selects RX4 yX4_inTime yX4_inTime ∈ wAll := inA_wA_13 _ (List.mem_of_getElem? (i := 20) rfl)
theorem m_333 : Cond.methodLink RX4 178 yX4_addDay ∈ wAll := inA_wA_13 _ (List.mem_of_getElem? (i := 21) rfl)
theorem m_334 : Cond.instanceMethod yX4_addDay ∈ wAll := inA_wA_13 _ (List.mem_of_getElem? (i := 22) rfl)
theorem m_335 : Cond.selects RX4 yX4_addDay yX4_addDay ∈ wAll := inA_wA_13 _ (List.mem_of_getElem? (i := 23) rfl)
theorem m_336 : Cond.code yX4_fewestDays cX4_fewestDays 5 (some .int) ∈ wAll := inA_wA_14 _ (List.mem_of_getElem? (i := 0) rfl)
theorem m_337 : Cond.code yX4_canBeSeen cX4_canBeSeen 6 (some .boolean) ∈ wAll := inA_wA_14 _ (List.mem_of_getElem? (i := 1) rfl)
theorem m_338 : Cond.methodLink RX4 190 yX4_canBeSeen ∈ wAll := inA_wA_14 _ (List.mem_of_getElem? (i := 2) rfl)
theorem m_339 : Cond.instanceMethod yX4_canBeSeen ∈ wAll := inA_wA_14 _ (List.mem_of_getElem? (i := 3) rfl)
theorem m_340 : Cond.selects RX4 yX4_canBeSeen yX4_canBeSeen ∈ wAll := inA_wA_14 _ (List.mem_of_getElem? (i := 4) rfl)
theorem m_341 : Cond.code yX4_lostBits cX4_lostBits 6 (some .int) ∈ wAll := inA_wA_14 _ (List.mem_of_getElem? (i := 5) rfl)
theorem m_342 : Cond.fieldLink RX8 54 "CardBowl$State" "knows" "[I" ∈ wAll := inA_wA_14 _ (List.mem_of_getElem? (i := 6) rfl)
theorem m_343 : Cond.fieldLink RX8 64 "CardBowl$State" "town" "LCardBowl$Town;" ∈ wAll := inA_wA_14 _ (List.mem_of_getElem? (i := 7) rfl)
theorem m_344 : Cond.fieldLink RX8 68 "CardBowl$Town" "houses" "I" ∈ wAll := inA_wA_14 _ (List.mem_of_getElem? (i := 8) rfl)
theorem m_345 : Cond.fieldLink RX8 73 "CardBowl$State" "day" "I" ∈ wAll := inA_wA_14 _ (List.mem_of_getElem? (i := 9) rfl)
theorem m_346 : Cond.methodLink RX8 76 yX7_isThere ∈ wAll := inA_wA_14 _ (List.mem_of_getElem? (i := 10) rfl)
theorem m_347 : Cond.methodLink RX8 80 yJ6_bitCount_0f7a4 ∈ wAll := inA_wA_14 _ (List.mem_of_getElem? (i := 11) rfl)
theorem m_348 : Cond.fieldLink RX8 86 "CardBowl$Town" "introducers" "I" ∈ wAll := inA_wA_14 _ (List.mem_of_getElem? (i := 12) rfl)
theorem m_349 : Cond.code yX8_everyoneToKnow cX8_everyoneToKnow 7 (some .int) ∈ wAll := inA_wA_14 _ (List.mem_of_getElem? (i := 13) rfl)
theorem m_350 : Cond.fieldLink RX8 89 "CardBowl$Ways" "between" "I" ∈ wAll := inA_wA_14 _ (List.mem_of_getElem? (i := 14) rfl)
theorem m_351 : Cond.fieldLink RX8 22 "CardBowl$Ways" "house" "[I" ∈ wAll := inA_wA_14 _ (List.mem_of_getElem? (i := 15) rfl)
theorem m_352 : Cond.methodLink RX8 44 yX6_knew ∈ wAll := inA_wA_14 _ (List.mem_of_getElem? (i := 16) rfl)
theorem m_353 : Cond.code yX8_linksOf cX8_linksOf 5 (some .int) ∈ wAll := inA_wA_14 _ (List.mem_of_getElem? (i := 17) rfl)
theorem m_354 : Cond.fieldLink RX8 25 "CardBowl$Ways" "friends" "[I" ∈ wAll := inA_wA_14 _ (List.mem_of_getElem? (i := 18) rfl)
theorem m_355 : Cond.fieldLink RX8 28 "CardBowl$Ways" "links" "[I" ∈ wAll := inA_wA_14 _ (List.mem_of_getElem? (i := 19) rfl)
theorem m_356 : Cond.initialized RX8 ∈ wAll := inA_wA_14 _ (List.mem_of_getElem? (i := 20) rfl)
theorem m_357 : Cond.methodLink RX8 92 yX8_linksOf ∈ wAll := inA_wA_14 _ (List.mem_of_getElem? (i := 21) rfl)
theorem m_358 : Cond.instanceMethod yX8_linksOf ∈ wAll := inA_wA_14 _ (List.mem_of_getElem? (i := 22) rfl)
theorem m_359 : Cond.selects RX8 yX8_linksOf yX8_linksOf ∈ wAll := inA_wA_14 _ (List.mem_of_getElem? (i := 23) rfl)
theorem m_360 : Cond.code yX8_gather cX8_gather 5 none ∈ wAll := inA_wA_15 _ (List.mem_of_getElem? (i := 0) rfl)
theorem m_361 : Cond.fieldLink RX8 41 "CardBowl$Ways" "length" "I" ∈ wAll := inA_wA_15 _ (List.mem_of_getElem? (i := 1) rfl)
theorem m_362 : Cond.fieldLink RX8 11 "CardBowl$Ways" "calls" "[I" ∈ wAll := inA_wA_15 _ (List.mem_of_getElem? (i := 2) rfl)
theorem m_363 : Cond.fieldLink RX8 34 "CardBowl$Ways" "latest" "[I" ∈ wAll := inA_wA_15 _ (List.mem_of_getElem? (i := 3) rfl)
theorem m_364 : Cond.code yX8_tell cX8_tell 6 none ∈ wAll := inA_wA_15 _ (List.mem_of_getElem? (i := 4) rfl)
theorem m_365 : Cond.fieldLink RX8 31 "CardBowl$Ways" "queue" "[I" ∈ wAll := inA_wA_15 _ (List.mem_of_getElem? (i := 5) rfl)
theorem m_366 : Cond.methodLink RX8 95 yX8_tell ∈ wAll := inA_wA_15 _ (List.mem_of_getElem? (i := 6) rfl)
theorem m_367 : Cond.instanceMethod yX8_tell ∈ wAll := inA_wA_15 _ (List.mem_of_getElem? (i := 7) rfl)
theorem m_368 : Cond.selects RX8 yX8_tell yX8_tell ∈ wAll := inA_wA_15 _ (List.mem_of_getElem? (i := 8) rfl)
theorem m_369 : Cond.code yX8_search cX8_search 13 none ∈ wAll := inA_wA_15 _ (List.mem_of_getElem? (i := 9) rfl)
theorem m_370 : Cond.fieldLink RX8 37 "CardBowl$Ways" "sought" "Z" ∈ wAll := inA_wA_15 _ (List.mem_of_getElem? (i := 10) rfl)
theorem m_371 : Cond.fieldLink RX8 15 "CardBowl$Ways" "caller" "I" ∈ wAll := inA_wA_15 _ (List.mem_of_getElem? (i := 11) rfl)
theorem m_372 : Cond.fieldLink RX8 19 "CardBowl$Ways" "goal" "I" ∈ wAll := inA_wA_15 _ (List.mem_of_getElem? (i := 12) rfl)
theorem m_373 : Cond.methodLink RX8 50 yX8_everyoneToKnow ∈ wAll := inA_wA_15 _ (List.mem_of_getElem? (i := 13) rfl)
theorem m_374 : Cond.static yX8_everyoneToKnow ∈ wAll := inA_wA_15 _ (List.mem_of_getElem? (i := 14) rfl)
theorem m_375 : Cond.methodLink RX8 57 yX8_gather ∈ wAll := inA_wA_15 _ (List.mem_of_getElem? (i := 15) rfl)
theorem m_376 : Cond.instanceMethod yX8_gather ∈ wAll := inA_wA_15 _ (List.mem_of_getElem? (i := 16) rfl)
theorem m_377 : Cond.selects RX8 yX8_gather yX8_gather ∈ wAll := inA_wA_15 _ (List.mem_of_getElem? (i := 17) rfl)
theorem m_378 : Cond.methodLink RX8 61 yX8_search ∈ wAll := inA_wA_15 _ (List.mem_of_getElem? (i := 18) rfl)
theorem m_379 : Cond.instanceMethod yX8_search ∈ wAll := inA_wA_15 _ (List.mem_of_getElem? (i := 19) rfl)
theorem m_380 : Cond.selects RX8 yX8_search yX8_search ∈ wAll := inA_wA_15 _ (List.mem_of_getElem? (i := 20) rfl)
theorem m_381 : Cond.code yX8_seek cX8_seek 5 none ∈ wAll := inA_wA_15 _ (List.mem_of_getElem? (i := 21) rfl)
theorem m_382 : Cond.code yX9_isSlot cX9_isSlot 1 (some .boolean) ∈ wAll := inA_wA_15 _ (List.mem_of_getElem? (i := 22) rfl)
theorem m_383 : Cond.code yX9_isImage cX9_isImage 1 (some .boolean) ∈ wAll := inA_wA_15 _ (List.mem_of_getElem? (i := 23) rfl)
theorem m_384 : Cond.fieldLink RX9 40 "CardBowl" "rounds" "LCardBowl$Rounds;" ∈ wAll := inA_wA_16 _ (List.mem_of_getElem? (i := 0) rfl)
theorem m_385 : Cond.fieldLink RX9 330 "CardBowl$Rounds" "planned" "Z" ∈ wAll := inA_wA_16 _ (List.mem_of_getElem? (i := 1) rfl)
theorem m_386 : Cond.fieldLink RX9 47 "CardBowl" "ways" "LCardBowl$Ways;" ∈ wAll := inA_wA_16 _ (List.mem_of_getElem? (i := 2) rfl)
theorem m_387 : Cond.fieldLink RX9 333 "CardBowl$Ways" "sought" "Z" ∈ wAll := inA_wA_16 _ (List.mem_of_getElem? (i := 3) rfl)
theorem m_388 : Cond.code yX9_forget cX9_forget 1 none ∈ wAll := inA_wA_16 _ (List.mem_of_getElem? (i := 4) rfl)
theorem m_389 : Cond.fieldLink RX9 23 "CardBowl" "state" "LCardBowl$State;" ∈ wAll := inA_wA_16 _ (List.mem_of_getElem? (i := 5) rfl)
theorem m_390 : Cond.fieldLink RX9 93 "CardBowl$State" "town" "LCardBowl$Town;" ∈ wAll := inA_wA_16 _ (List.mem_of_getElem? (i := 6) rfl)
theorem m_391 : Cond.methodLink RX9 126 yX7_hasPair ∈ wAll := inA_wA_16 _ (List.mem_of_getElem? (i := 7) rfl)
theorem m_392 : Cond.instanceMethod yX7_hasPair ∈ wAll := inA_wA_16 _ (List.mem_of_getElem? (i := 8) rfl)
theorem m_393 : Cond.selects RX7 yX7_hasPair yX7_hasPair ∈ wAll := inA_wA_16 _ (List.mem_of_getElem? (i := 9) rfl)
theorem m_394 : Cond.code yX9_isDeed cX9_isDeed 4 (some .boolean) ∈ wAll := inA_wA_16 _ (List.mem_of_getElem? (i := 10) rfl)
theorem m_395 : Cond.methodLink RX9 158 yX7_has ∈ wAll := inA_wA_16 _ (List.mem_of_getElem? (i := 11) rfl)
theorem m_396 : Cond.fieldLink RX9 102 "CardBowl$State" "day" "I" ∈ wAll := inA_wA_16 _ (List.mem_of_getElem? (i := 12) rfl)
theorem m_397 : Cond.code yX9_isOuting cX9_isOuting 3 (some .boolean) ∈ wAll := inA_wA_16 _ (List.mem_of_getElem? (i := 13) rfl)
theorem m_398 : Cond.fieldLink RX9 33 "CardBowl" "slots" "[LCardBowl$Slot;" ∈ wAll := inA_wA_16 _ (List.mem_of_getElem? (i := 14) rfl)
theorem m_399 : Cond.fieldLink RX9 138 "CardBowl$Slot" "filled" "Z" ∈ wAll := inA_wA_16 _ (List.mem_of_getElem? (i := 15) rfl)
theorem m_400 : Cond.code yX9_filledSlots cX9_filledSlots 3 (some .int) ∈ wAll := inA_wA_16 _ (List.mem_of_getElem? (i := 16) rfl)
theorem m_401 : Cond.fieldLink RX9 63 "CardBowl" "tapeSize" "I" ∈ wAll := inA_wA_16 _ (List.mem_of_getElem? (i := 17) rfl)
theorem m_402 : Cond.fieldLink RX9 9 "CardBowl" "tape" "[B" ∈ wAll := inA_wA_16 _ (List.mem_of_getElem? (i := 18) rfl)
theorem m_403 : Cond.code yX9_feedNumber cX9_feedNumber 3 none ∈ wAll := inA_wA_16 _ (List.mem_of_getElem? (i := 19) rfl)
theorem m_404 : Cond.initialized RX9 ∈ wAll := inA_wA_16 _ (List.mem_of_getElem? (i := 20) rfl)
theorem m_405 : Cond.methodLink RX9 67 yX9_feedNumber ∈ wAll := inA_wA_16 _ (List.mem_of_getElem? (i := 21) rfl)
theorem m_406 : Cond.instanceMethod yX9_feedNumber ∈ wAll := inA_wA_16 _ (List.mem_of_getElem? (i := 22) rfl)
theorem m_407 : Cond.selects RX9 yX9_feedNumber yX9_feedNumber ∈ wAll := inA_wA_16 _ (List.mem_of_getElem? (i := 23) rfl)
theorem m_408 : Cond.code yX9_feed cX9_feed 6 (some .int) ∈ wAll := inA_wA_17 _ (List.mem_of_getElem? (i := 0) rfl)
theorem m_409 : Cond.code yX9_end cX9_end 2 (some .int) ∈ wAll := inA_wA_17 _ (List.mem_of_getElem? (i := 1) rfl)
theorem m_410 : Cond.fieldLink RX9 16 "CardBowl" "reader" "LCardBowl$Reader;" ∈ wAll := inA_wA_17 _ (List.mem_of_getElem? (i := 2) rfl)
theorem m_411 : Cond.fieldLink RX9 99 "CardBowl$Reader" "place" "I" ∈ wAll := inA_wA_17 _ (List.mem_of_getElem? (i := 3) rfl)
theorem m_412 : Cond.fieldLink RX9 75 "CardBowl$Reader" "fault" "I" ∈ wAll := inA_wA_17 _ (List.mem_of_getElem? (i := 4) rfl)
theorem m_413 : Cond.code yX9_fault cX9_fault 2 (some .int) ∈ wAll := inA_wA_17 _ (List.mem_of_getElem? (i := 5) rfl)
theorem m_414 : Cond.methodLink RX9 90 yX9_forget ∈ wAll := inA_wA_17 _ (List.mem_of_getElem? (i := 6) rfl)
theorem m_415 : Cond.instanceMethod yX9_forget ∈ wAll := inA_wA_17 _ (List.mem_of_getElem? (i := 7) rfl)
theorem m_416 : Cond.selects RX9 yX9_forget yX9_forget ∈ wAll := inA_wA_17 _ (List.mem_of_getElem? (i := 8) rfl)
theorem m_417 : Cond.code yX9_days cX9_days 2 (some .int) ∈ wAll := inA_wA_17 _ (List.mem_of_getElem? (i := 9) rfl)
theorem m_418 : Cond.methodLink RX9 105 yX9_isDeed ∈ wAll := inA_wA_17 _ (List.mem_of_getElem? (i := 10) rfl)
theorem m_419 : Cond.instanceMethod yX9_isDeed ∈ wAll := inA_wA_17 _ (List.mem_of_getElem? (i := 11) rfl)
theorem m_420 : Cond.selects RX9 yX9_isDeed yX9_isDeed ∈ wAll := inA_wA_17 _ (List.mem_of_getElem? (i := 12) rfl)
theorem m_421 : Cond.methodLink RX9 109 yX6_barrier ∈ wAll := inA_wA_17 _ (List.mem_of_getElem? (i := 13) rfl)
theorem m_422 : Cond.instanceMethod yX6_barrier ∈ wAll := inA_wA_17 _ (List.mem_of_getElem? (i := 14) rfl)
theorem m_423 : Cond.selects RX6 yX6_barrier yX6_barrier ∈ wAll := inA_wA_17 _ (List.mem_of_getElem? (i := 15) rfl)
theorem m_424 : Cond.code yX9_bars cX9_bars 4 (some .int) ∈ wAll := inA_wA_17 _ (List.mem_of_getElem? (i := 16) rfl)
theorem m_425 : Cond.fieldLink RX9 113 "CardBowl$State" "deeds" "LCardBowl$Deeds;" ∈ wAll := inA_wA_17 _ (List.mem_of_getElem? (i := 17) rfl)
theorem m_426 : Cond.methodLink RX9 117 yX2_isFull ∈ wAll := inA_wA_17 _ (List.mem_of_getElem? (i := 18) rfl)
theorem m_427 : Cond.instanceMethod yX2_isFull ∈ wAll := inA_wA_17 _ (List.mem_of_getElem? (i := 19) rfl)
theorem m_428 : Cond.selects RX2 yX2_isFull yX2_isFull ∈ wAll := inA_wA_17 _ (List.mem_of_getElem? (i := 20) rfl)
theorem m_429 : Cond.methodLink RX9 123 yX6_act ∈ wAll := inA_wA_17 _ (List.mem_of_getElem? (i := 21) rfl)
theorem m_430 : Cond.instanceMethod yX6_act ∈ wAll := inA_wA_17 _ (List.mem_of_getElem? (i := 22) rfl)
theorem m_431 : Cond.selects RX6 yX6_act yX6_act ∈ wAll := inA_wA_17 _ (List.mem_of_getElem? (i := 23) rfl)
theorem m_432 : Cond.code yX9_does cX9_does 4 (some .int) ∈ wAll := inA_wA_18 _ (List.mem_of_getElem? (i := 0) rfl)
theorem m_433 : Cond.methodLink RX9 130 yX6_chance ∈ wAll := inA_wA_18 _ (List.mem_of_getElem? (i := 1) rfl)
theorem m_434 : Cond.instanceMethod yX6_chance ∈ wAll := inA_wA_18 _ (List.mem_of_getElem? (i := 2) rfl)
theorem m_435 : Cond.selects RX6 yX6_chance yX6_chance ∈ wAll := inA_wA_18 _ (List.mem_of_getElem? (i := 3) rfl)
theorem m_436 : Cond.code yX9_meet cX9_meet 3 (some .int) ∈ wAll := inA_wA_18 _ (List.mem_of_getElem? (i := 4) rfl)
theorem m_437 : Cond.methodLink RX9 134 yX9_isSlot ∈ wAll := inA_wA_18 _ (List.mem_of_getElem? (i := 5) rfl)
theorem m_438 : Cond.static yX9_isSlot ∈ wAll := inA_wA_18 _ (List.mem_of_getElem? (i := 6) rfl)
theorem m_439 : Cond.fieldLink RX9 142 "CardBowl$Slot" "size" "I" ∈ wAll := inA_wA_18 _ (List.mem_of_getElem? (i := 7) rfl)
theorem m_440 : Cond.methodLink RX9 145 yX5_small ∈ wAll := inA_wA_18 _ (List.mem_of_getElem? (i := 8) rfl)
theorem m_441 : Cond.methodLink RX9 152 yX9_does ∈ wAll := inA_wA_18 _ (List.mem_of_getElem? (i := 9) rfl)
theorem m_442 : Cond.instanceMethod yX9_does ∈ wAll := inA_wA_18 _ (List.mem_of_getElem? (i := 10) rfl)
theorem m_443 : Cond.selects RX9 yX9_does yX9_does ∈ wAll := inA_wA_18 _ (List.mem_of_getElem? (i := 11) rfl)
theorem m_444 : Cond.methodLink RX9 149 yX9_meet ∈ wAll := inA_wA_18 _ (List.mem_of_getElem? (i := 12) rfl)
theorem m_445 : Cond.instanceMethod yX9_meet ∈ wAll := inA_wA_18 _ (List.mem_of_getElem? (i := 13) rfl)
theorem m_446 : Cond.selects RX9 yX9_meet yX9_meet ∈ wAll := inA_wA_18 _ (List.mem_of_getElem? (i := 14) rfl)
theorem m_447 : Cond.code yX9_done cX9_done 9 (some .int) ∈ wAll := inA_wA_18 _ (List.mem_of_getElem? (i := 15) rfl)
theorem m_448 : Cond.methodLink RX9 155 yX6_knew ∈ wAll := inA_wA_18 _ (List.mem_of_getElem? (i := 16) rfl)
theorem m_449 : Cond.code yX9_known cX9_known 3 (some .int) ∈ wAll := inA_wA_18 _ (List.mem_of_getElem? (i := 17) rfl)
theorem m_450 : Cond.fieldLink RX9 161 "CardBowl$State" "debts" "LCardBowl$Debts;" ∈ wAll := inA_wA_18 _ (List.mem_of_getElem? (i := 18) rfl)
theorem m_451 : Cond.fieldLink RX9 164 "CardBowl$Debts" "open" "[I" ∈ wAll := inA_wA_18 _ (List.mem_of_getElem? (i := 19) rfl)
theorem m_452 : Cond.code yX9_debts cX9_debts 2 (some .int) ∈ wAll := inA_wA_18 _ (List.mem_of_getElem? (i := 20) rfl)
theorem m_453 : Cond.methodLink RX9 167 yX1_nth ∈ wAll := inA_wA_18 _ (List.mem_of_getElem? (i := 21) rfl)
theorem m_454 : Cond.fieldLink RX9 170 "CardBowl$Debts" "creditor" "[I" ∈ wAll := inA_wA_18 _ (List.mem_of_getElem? (i := 22) rfl)
theorem m_455 : Cond.fieldLink RX9 173 "CardBowl$Debts" "kind" "[I" ∈ wAll := inA_wA_18 _ (List.mem_of_getElem? (i := 23) rfl)
theorem m_456 : Cond.fieldLink RX9 176 "CardBowl$Debts" "due" "[I" ∈ wAll := inA_wA_19 _ (List.mem_of_getElem? (i := 0) rfl)
theorem m_457 : Cond.fieldLink RX9 179 "CardBowl$Debts" "came" "[I" ∈ wAll := inA_wA_19 _ (List.mem_of_getElem? (i := 1) rfl)
theorem m_458 : Cond.code yX9_debt cX9_debt 5 (some .int) ∈ wAll := inA_wA_19 _ (List.mem_of_getElem? (i := 2) rfl)
theorem m_459 : Cond.methodLink RX9 182 yX1_overdueTo ∈ wAll := inA_wA_19 _ (List.mem_of_getElem? (i := 3) rfl)
theorem m_460 : Cond.instanceMethod yX1_overdueTo ∈ wAll := inA_wA_19 _ (List.mem_of_getElem? (i := 4) rfl)
theorem m_461 : Cond.selects RX1 yX1_overdueTo yX1_overdueTo ∈ wAll := inA_wA_19 _ (List.mem_of_getElem? (i := 5) rfl)
theorem m_462 : Cond.code yX9_slights cX9_slights 2 (some .int) ∈ wAll := inA_wA_19 _ (List.mem_of_getElem? (i := 6) rfl)
theorem m_463 : Cond.fieldLink RX9 94 "CardBowl$Town" "houses" "I" ∈ wAll := inA_wA_19 _ (List.mem_of_getElem? (i := 7) rfl)
theorem m_464 : Cond.fieldLink RX9 185 "CardBowl$Town" "rank" "[I" ∈ wAll := inA_wA_19 _ (List.mem_of_getElem? (i := 8) rfl)
theorem m_465 : Cond.code yX9_first cX9_first 6 (some .int) ∈ wAll := inA_wA_19 _ (List.mem_of_getElem? (i := 9) rfl)
theorem m_466 : Cond.methodLink RX9 188 yX6_wouldMake ∈ wAll := inA_wA_19 _ (List.mem_of_getElem? (i := 10) rfl)
theorem m_467 : Cond.instanceMethod yX6_wouldMake ∈ wAll := inA_wA_19 _ (List.mem_of_getElem? (i := 11) rfl)
theorem m_468 : Cond.selects RX6 yX6_wouldMake yX6_wouldMake ∈ wAll := inA_wA_19 _ (List.mem_of_getElem? (i := 12) rfl)
theorem m_469 : Cond.code yX9_owes cX9_owes 4 (some .int) ∈ wAll := inA_wA_19 _ (List.mem_of_getElem? (i := 13) rfl)
theorem m_470 : Cond.methodLink RX9 191 yX9_isOuting ∈ wAll := inA_wA_19 _ (List.mem_of_getElem? (i := 14) rfl)
theorem m_471 : Cond.instanceMethod yX9_isOuting ∈ wAll := inA_wA_19 _ (List.mem_of_getElem? (i := 15) rfl)
theorem m_472 : Cond.selects RX9 yX9_isOuting yX9_isOuting ∈ wAll := inA_wA_19 _ (List.mem_of_getElem? (i := 16) rfl)
theorem m_473 : Cond.methodLink RX9 194 yX4_plan ∈ wAll := inA_wA_19 _ (List.mem_of_getElem? (i := 17) rfl)
theorem m_474 : Cond.instanceMethod yX4_plan ∈ wAll := inA_wA_19 _ (List.mem_of_getElem? (i := 18) rfl)
theorem m_475 : Cond.selects RX4 yX4_plan yX4_plan ∈ wAll := inA_wA_19 _ (List.mem_of_getElem? (i := 19) rfl)
theorem m_476 : Cond.fieldLink RX9 198 "CardBowl$Rounds" "bestWorth" "I" ∈ wAll := inA_wA_19 _ (List.mem_of_getElem? (i := 20) rfl)
theorem m_477 : Cond.code yX9_worth cX9_worth 3 (some .int) ∈ wAll := inA_wA_19 _ (List.mem_of_getElem? (i := 21) rfl)
theorem m_478 : Cond.fieldLink RX9 201 "CardBowl$Rounds" "length" "I" ∈ wAll := inA_wA_19 _ (List.mem_of_getElem? (i := 22) rfl)
theorem m_479 : Cond.fieldLink RX9 204 "CardBowl$Rounds" "order" "[I" ∈ wAll := inA_wA_19 _ (List.mem_of_getElem? (i := 23) rfl)
theorem m_480 : Cond.code yX9_round cX9_round 4 (some .int) ∈ wAll := inA_wA_20 _ (List.mem_of_getElem? (i := 0) rfl)
theorem m_481 : Cond.fieldLink RX9 207 "CardBowl$Rounds" "bestOver" "I" ∈ wAll := inA_wA_20 _ (List.mem_of_getElem? (i := 1) rfl)
theorem m_482 : Cond.code yX9_over cX9_over 3 (some .int) ∈ wAll := inA_wA_20 _ (List.mem_of_getElem? (i := 2) rfl)
theorem m_483 : Cond.methodLink RX9 210 yX4_canWalk ∈ wAll := inA_wA_20 _ (List.mem_of_getElem? (i := 3) rfl)
theorem m_484 : Cond.instanceMethod yX4_canWalk ∈ wAll := inA_wA_20 _ (List.mem_of_getElem? (i := 4) rfl)
theorem m_485 : Cond.selects RX4 yX4_canWalk yX4_canWalk ∈ wAll := inA_wA_20 _ (List.mem_of_getElem? (i := 5) rfl)
theorem m_486 : Cond.code yX9_may cX9_may 5 (some .int) ∈ wAll := inA_wA_20 _ (List.mem_of_getElem? (i := 6) rfl)
theorem m_487 : Cond.methodLink RX9 214 yX4_fewestDays ∈ wAll := inA_wA_20 _ (List.mem_of_getElem? (i := 7) rfl)
theorem m_488 : Cond.instanceMethod yX4_fewestDays ∈ wAll := inA_wA_20 _ (List.mem_of_getElem? (i := 8) rfl)
theorem m_489 : Cond.selects RX4 yX4_fewestDays yX4_fewestDays ∈ wAll := inA_wA_20 _ (List.mem_of_getElem? (i := 9) rfl)
theorem m_490 : Cond.code yX9_fewest cX9_fewest 2 (some .int) ∈ wAll := inA_wA_20 _ (List.mem_of_getElem? (i := 10) rfl)
theorem m_491 : Cond.methodLink RX9 218 yX4_lostBits ∈ wAll := inA_wA_20 _ (List.mem_of_getElem? (i := 11) rfl)
theorem m_492 : Cond.instanceMethod yX4_lostBits ∈ wAll := inA_wA_20 _ (List.mem_of_getElem? (i := 12) rfl)
theorem m_493 : Cond.selects RX4 yX4_lostBits yX4_lostBits ∈ wAll := inA_wA_20 _ (List.mem_of_getElem? (i := 13) rfl)
theorem m_494 : Cond.code yX9_lost cX9_lost 2 (some .int) ∈ wAll := inA_wA_20 _ (List.mem_of_getElem? (i := 14) rfl)
theorem m_495 : Cond.methodLink RX9 221 yX8_seek ∈ wAll := inA_wA_20 _ (List.mem_of_getElem? (i := 15) rfl)
theorem m_496 : Cond.instanceMethod yX8_seek ∈ wAll := inA_wA_20 _ (List.mem_of_getElem? (i := 16) rfl)
theorem m_497 : Cond.selects RX8 yX8_seek yX8_seek ∈ wAll := inA_wA_20 _ (List.mem_of_getElem? (i := 17) rfl)
theorem m_498 : Cond.fieldLink RX9 224 "CardBowl$Ways" "length" "I" ∈ wAll := inA_wA_20 _ (List.mem_of_getElem? (i := 18) rfl)
theorem m_499 : Cond.code yX9_soon cX9_soon 3 (some .int) ∈ wAll := inA_wA_20 _ (List.mem_of_getElem? (i := 19) rfl)
theorem m_500 : Cond.fieldLink RX9 225 "CardBowl$Ways" "calls" "[I" ∈ wAll := inA_wA_20 _ (List.mem_of_getElem? (i := 20) rfl)
theorem m_501 : Cond.code yX9_path cX9_path 4 (some .int) ∈ wAll := inA_wA_20 _ (List.mem_of_getElem? (i := 21) rfl)
theorem m_502 : Cond.methodLink RX9 228 yX6_hanging ∈ wAll := inA_wA_20 _ (List.mem_of_getElem? (i := 22) rfl)
theorem m_503 : Cond.code yX9_reach cX9_reach 2 (some .int) ∈ wAll := inA_wA_20 _ (List.mem_of_getElem? (i := 23) rfl)
theorem m_504 : Cond.methodLink RX9 231 yX6_canDrop ∈ wAll := inA_wA_21 _ (List.mem_of_getElem? (i := 0) rfl)
theorem m_505 : Cond.instanceMethod yX6_canDrop ∈ wAll := inA_wA_21 _ (List.mem_of_getElem? (i := 1) rfl)
theorem m_506 : Cond.selects RX6 yX6_canDrop yX6_canDrop ∈ wAll := inA_wA_21 _ (List.mem_of_getElem? (i := 2) rfl)
theorem m_507 : Cond.code yX9_drop cX9_drop 5 (some .int) ∈ wAll := inA_wA_21 _ (List.mem_of_getElem? (i := 3) rfl)
theorem m_508 : Cond.methodLink RX9 234 yX6_holdsTogether ∈ wAll := inA_wA_21 _ (List.mem_of_getElem? (i := 4) rfl)
theorem m_509 : Cond.code yX9_tie cX9_tie 3 (some .int) ∈ wAll := inA_wA_21 _ (List.mem_of_getElem? (i := 5) rfl)
theorem m_510 : Cond.methodLink RX9 237 yX6_followCalls ∈ wAll := inA_wA_21 _ (List.mem_of_getElem? (i := 6) rfl)
theorem m_511 : Cond.instanceMethod yX6_followCalls ∈ wAll := inA_wA_21 _ (List.mem_of_getElem? (i := 7) rfl)
theorem m_512 : Cond.selects RX6 yX6_followCalls yX6_followCalls ∈ wAll := inA_wA_21 _ (List.mem_of_getElem? (i := 8) rfl)
theorem m_513 : Cond.methodLink RX9 240 yX6_ringBits ∈ wAll := inA_wA_21 _ (List.mem_of_getElem? (i := 9) rfl)
theorem m_514 : Cond.instanceMethod yX6_ringBits ∈ wAll := inA_wA_21 _ (List.mem_of_getElem? (i := 10) rfl)
theorem m_515 : Cond.selects RX6 yX6_ringBits yX6_ringBits ∈ wAll := inA_wA_21 _ (List.mem_of_getElem? (i := 11) rfl)
theorem m_516 : Cond.methodLink RX9 243 yJ6_numberOfTrailingZeros_0f7a4 ∈ wAll := inA_wA_21 _ (List.mem_of_getElem? (i := 12) rfl)
theorem m_517 : Cond.code yX9_rings cX9_rings 4 (some .int) ∈ wAll := inA_wA_21 _ (List.mem_of_getElem? (i := 13) rfl)
theorem m_518 : Cond.code yX9_ring cX9_ring 2 (some .int) ∈ wAll := inA_wA_21 _ (List.mem_of_getElem? (i := 14) rfl)
theorem m_519 : Cond.constant RX9 248 (-2000000000) ∈ wAll := inA_wA_21 _ (List.mem_of_getElem? (i := 15) rfl)
theorem m_520 : Cond.fieldLink RX9 249 "CardBowl$Town" "x" "[I" ∈ wAll := inA_wA_21 _ (List.mem_of_getElem? (i := 16) rfl)
theorem m_521 : Cond.fieldLink RX9 252 "CardBowl$Town" "y" "[I" ∈ wAll := inA_wA_21 _ (List.mem_of_getElem? (i := 17) rfl)
theorem m_522 : Cond.fieldLink RX9 255 "CardBowl$Town" "weekday" "[I" ∈ wAll := inA_wA_21 _ (List.mem_of_getElem? (i := 18) rfl)
theorem m_523 : Cond.fieldLink RX9 258 "CardBowl$Town" "from" "[I" ∈ wAll := inA_wA_21 _ (List.mem_of_getElem? (i := 19) rfl)
theorem m_524 : Cond.fieldLink RX9 261 "CardBowl$Town" "to" "[I" ∈ wAll := inA_wA_21 _ (List.mem_of_getElem? (i := 20) rfl)
theorem m_525 : Cond.fieldLink RX9 264 "CardBowl$Town" "came" "[I" ∈ wAll := inA_wA_21 _ (List.mem_of_getElem? (i := 21) rfl)
theorem m_526 : Cond.methodLink RX9 265 yX2_callsBy ∈ wAll := inA_wA_21 _ (List.mem_of_getElem? (i := 22) rfl)
theorem m_527 : Cond.instanceMethod yX2_callsBy ∈ wAll := inA_wA_21 _ (List.mem_of_getElem? (i := 23) rfl)
theorem m_528 : Cond.selects RX2 yX2_callsBy yX2_callsBy ∈ wAll := inA_wA_22 _ (List.mem_of_getElem? (i := 0) rfl)
theorem m_529 : Cond.methodLink RX9 268 yX2_callsTo ∈ wAll := inA_wA_22 _ (List.mem_of_getElem? (i := 1) rfl)
theorem m_530 : Cond.instanceMethod yX2_callsTo ∈ wAll := inA_wA_22 _ (List.mem_of_getElem? (i := 2) rfl)
theorem m_531 : Cond.selects RX2 yX2_callsTo yX2_callsTo ∈ wAll := inA_wA_22 _ (List.mem_of_getElem? (i := 3) rfl)
theorem m_532 : Cond.code yX9_house cX9_house 3 (some .int) ∈ wAll := inA_wA_22 _ (List.mem_of_getElem? (i := 4) rfl)
theorem m_533 : Cond.fieldLink RX9 274 "CardBowl$State" "code" "LCardBowl$Code;" ∈ wAll := inA_wA_22 _ (List.mem_of_getElem? (i := 5) rfl)
theorem m_534 : Cond.fieldLink RX9 280 "CardBowl$Code" "lines" "I" ∈ wAll := inA_wA_22 _ (List.mem_of_getElem? (i := 6) rfl)
theorem m_535 : Cond.fieldLink RX9 279 "CardBowl$Debts" "size" "I" ∈ wAll := inA_wA_22 _ (List.mem_of_getElem? (i := 7) rfl)
theorem m_536 : Cond.methodLink RX9 285 yX1_overdue ∈ wAll := inA_wA_22 _ (List.mem_of_getElem? (i := 8) rfl)
theorem m_537 : Cond.instanceMethod yX1_overdue ∈ wAll := inA_wA_22 _ (List.mem_of_getElem? (i := 9) rfl)
theorem m_538 : Cond.selects RX1 yX1_overdue yX1_overdue ∈ wAll := inA_wA_22 _ (List.mem_of_getElem? (i := 10) rfl)
theorem m_539 : Cond.fieldLink RX9 288 "CardBowl$Deeds" "size" "I" ∈ wAll := inA_wA_22 _ (List.mem_of_getElem? (i := 11) rfl)
theorem m_540 : Cond.fieldLink RX9 289 "CardBowl$State" "paid" "I" ∈ wAll := inA_wA_22 _ (List.mem_of_getElem? (i := 12) rfl)
theorem m_541 : Cond.fieldLink RX9 292 "CardBowl$Town" "introducers" "I" ∈ wAll := inA_wA_22 _ (List.mem_of_getElem? (i := 13) rfl)
theorem m_542 : Cond.fieldLink RX9 295 "CardBowl$Town" "fresh" "I" ∈ wAll := inA_wA_22 _ (List.mem_of_getElem? (i := 14) rfl)
theorem m_543 : Cond.methodLink RX9 298 yX9_filledSlots ∈ wAll := inA_wA_22 _ (List.mem_of_getElem? (i := 15) rfl)
theorem m_544 : Cond.instanceMethod yX9_filledSlots ∈ wAll := inA_wA_22 _ (List.mem_of_getElem? (i := 16) rfl)
theorem m_545 : Cond.selects RX9 yX9_filledSlots yX9_filledSlots ∈ wAll := inA_wA_22 _ (List.mem_of_getElem? (i := 17) rfl)
theorem m_546 : Cond.code yX9_count cX9_count 2 (some .int) ∈ wAll := inA_wA_22 _ (List.mem_of_getElem? (i := 18) rfl)
theorem m_547 : Cond.methodLink RX9 306 yX5_lay ∈ wAll := inA_wA_22 _ (List.mem_of_getElem? (i := 19) rfl)
theorem m_548 : Cond.instanceMethod yX5_lay ∈ wAll := inA_wA_22 _ (List.mem_of_getElem? (i := 20) rfl)
theorem m_549 : Cond.selects RX5 yX5_lay yX5_lay ∈ wAll := inA_wA_22 _ (List.mem_of_getElem? (i := 21) rfl)
theorem m_550 : Cond.code yX9_row cX9_row 4 (some .int) ∈ wAll := inA_wA_22 _ (List.mem_of_getElem? (i := 22) rfl)
theorem m_551 : Cond.fieldLink RX9 310 "CardBowl$Slot" "numbers" "[J" ∈ wAll := inA_wA_22 _ (List.mem_of_getElem? (i := 23) rfl)
theorem m_552 : Cond.methodLink RX9 314 yX5_cut ∈ wAll := inA_wA_23 _ (List.mem_of_getElem? (i := 0) rfl)
theorem m_553 : Cond.instanceMethod yX5_cut ∈ wAll := inA_wA_23 _ (List.mem_of_getElem? (i := 1) rfl)
theorem m_554 : Cond.selects RX5 yX5_cut yX5_cut ∈ wAll := inA_wA_23 _ (List.mem_of_getElem? (i := 2) rfl)
theorem m_555 : Cond.code yX9_write cX9_write 6 (some .int) ∈ wAll := inA_wA_23 _ (List.mem_of_getElem? (i := 3) rfl)
theorem m_556 : Cond.fieldLink RX9 318 "CardBowl$Slot" "width" "I" ∈ wAll := inA_wA_23 _ (List.mem_of_getElem? (i := 4) rfl)
theorem m_557 : Cond.methodLink RX9 321 yX5_hasRun ∈ wAll := inA_wA_23 _ (List.mem_of_getElem? (i := 5) rfl)
theorem m_558 : Cond.instanceMethod yX5_hasRun ∈ wAll := inA_wA_23 _ (List.mem_of_getElem? (i := 6) rfl)
theorem m_559 : Cond.selects RX5 yX5_hasRun yX5_hasRun ∈ wAll := inA_wA_23 _ (List.mem_of_getElem? (i := 7) rfl)
theorem m_560 : Cond.methodLink RX9 324 arraycopyName ∈ wAll := inA_wA_23 _ (List.mem_of_getElem? (i := 8) rfl)
theorem m_561 : Cond.code yX9_paste cX9_paste 8 (some .int) ∈ wAll := inA_wA_23 _ (List.mem_of_getElem? (i := 9) rfl)
theorem m_562 : Cond.fieldLink RJ0 38 "java/lang/String" "COMPACT_STRINGS" "Z" ∈ wAll := inA_wA_23 _ (List.mem_of_getElem? (i := 10) rfl)
theorem m_563 : Cond.fieldLink RJ0 15 "java/lang/String" "coder" "B" ∈ wAll := inA_wA_23 _ (List.mem_of_getElem? (i := 11) rfl)
theorem m_564 : Cond.code yJ0_coder_7d493 cJ0_coder_7d493 1 (some .byte) ∈ wAll := inA_wA_23 _ (List.mem_of_getElem? (i := 12) rfl)
theorem m_565 : Cond.code yJ0_isLatin1_aae02 cJ0_isLatin1_aae02 1 (some .boolean) ∈ wAll := inA_wA_23 _ (List.mem_of_getElem? (i := 13) rfl)
theorem m_566 : Cond.fieldLink RJ0 9 "java/lang/String" "value" "[B" ∈ wAll := inA_wA_23 _ (List.mem_of_getElem? (i := 14) rfl)
theorem m_567 : Cond.initialized RJ0 ∈ wAll := inA_wA_23 _ (List.mem_of_getElem? (i := 15) rfl)
theorem m_568 : Cond.methodLink RJ0 335 yJ0_coder_7d493 ∈ wAll := inA_wA_23 _ (List.mem_of_getElem? (i := 16) rfl)
theorem m_569 : Cond.instanceMethod yJ0_coder_7d493 ∈ wAll := inA_wA_23 _ (List.mem_of_getElem? (i := 17) rfl)
theorem m_570 : Cond.selects RJ0 yJ0_coder_7d493 yJ0_coder_7d493 ∈ wAll := inA_wA_23 _ (List.mem_of_getElem? (i := 18) rfl)
theorem m_571 : Cond.code yJ0_length_8abf5 cJ0_length_8abf5 1 (some .int) ∈ wAll := inA_wA_23 _ (List.mem_of_getElem? (i := 19) rfl)
theorem m_572 : Cond.code yJ3_checkIndex_8e157 cJ3_checkIndex_8e157 3 (some .int) ∈ wAll := inA_wA_23 _ (List.mem_of_getElem? (i := 20) rfl)
theorem m_573 : Cond.fieldLink RJ0 1053 "jdk/internal/util/Preconditions" "SIOOBE_FORMATTER" "Ljava/util/function/BiFunction;" ∈ wAll := inA_wA_23 _ (List.mem_of_getElem? (i := 21) rfl)
theorem m_574 : Cond.initialized RJ3 ∈ wAll := inA_wA_23 _ (List.mem_of_getElem? (i := 22) rfl)
theorem m_575 : Cond.methodLink RJ0 1059 yJ3_checkIndex_8e157 ∈ wAll := inA_wA_23 _ (List.mem_of_getElem? (i := 23) rfl)
theorem m_576 : Cond.static yJ3_checkIndex_8e157 ∈ wAll := inA_wA_24 _ (List.mem_of_getElem? (i := 0) rfl)
theorem m_577 : Cond.code yJ0_checkIndex_df160 cJ0_checkIndex_df160 2 none ∈ wAll := inA_wA_24 _ (List.mem_of_getElem? (i := 1) rfl)
theorem m_578 : Cond.methodLink RJ1 9 yJ0_checkIndex_df160 ∈ wAll := inA_wA_24 _ (List.mem_of_getElem? (i := 2) rfl)
theorem m_579 : Cond.static yJ0_checkIndex_df160 ∈ wAll := inA_wA_24 _ (List.mem_of_getElem? (i := 3) rfl)
theorem m_580 : Cond.code yJ1_charAt_3b067 cJ1_charAt_3b067 2 (some .char) ∈ wAll := inA_wA_24 _ (List.mem_of_getElem? (i := 4) rfl)
theorem m_581 : Cond.methodLink RJ0 492 yJ0_isLatin1_aae02 ∈ wAll := inA_wA_24 _ (List.mem_of_getElem? (i := 5) rfl)
theorem m_582 : Cond.instanceMethod yJ0_isLatin1_aae02 ∈ wAll := inA_wA_24 _ (List.mem_of_getElem? (i := 6) rfl)
theorem m_583 : Cond.selects RJ0 yJ0_isLatin1_aae02 yJ0_isLatin1_aae02 ∈ wAll := inA_wA_24 _ (List.mem_of_getElem? (i := 7) rfl)
theorem m_584 : Cond.initialized RJ1 ∈ wAll := inA_wA_24 _ (List.mem_of_getElem? (i := 8) rfl)
theorem m_585 : Cond.methodLink RJ0 495 yJ1_charAt_3b067 ∈ wAll := inA_wA_24 _ (List.mem_of_getElem? (i := 9) rfl)
theorem m_586 : Cond.static yJ1_charAt_3b067 ∈ wAll := inA_wA_24 _ (List.mem_of_getElem? (i := 10) rfl)
theorem m_587 : Cond.code yJ0_charAt_5068e cJ0_charAt_5068e 2 (some .char) ∈ wAll := inA_wA_24 _ (List.mem_of_getElem? (i := 11) rfl)
theorem m_588 : Cond.fieldLink RX3 55 "CardBowl$Reader" "kind" "I" ∈ wAll := inA_wA_24 _ (List.mem_of_getElem? (i := 12) rfl)
theorem m_589 : Cond.methodLink RX3 189 yJ0_length_8abf5 ∈ wAll := inA_wA_24 _ (List.mem_of_getElem? (i := 13) rfl)
theorem m_590 : Cond.instanceMethod yJ0_length_8abf5 ∈ wAll := inA_wA_24 _ (List.mem_of_getElem? (i := 14) rfl)
theorem m_591 : Cond.selects RJ0 yJ0_length_8abf5 yJ0_length_8abf5 ∈ wAll := inA_wA_24 _ (List.mem_of_getElem? (i := 15) rfl)
theorem m_592 : Cond.fieldLink RX3 179 "CardBowl$Reader" "begin" "I" ∈ wAll := inA_wA_24 _ (List.mem_of_getElem? (i := 16) rfl)
theorem m_593 : Cond.fieldLink RX3 42 "CardBowl$Reader" "next" "I" ∈ wAll := inA_wA_24 _ (List.mem_of_getElem? (i := 17) rfl)
theorem m_594 : Cond.methodLink RX3 195 yJ0_charAt_5068e ∈ wAll := inA_wA_24 _ (List.mem_of_getElem? (i := 18) rfl)
theorem m_595 : Cond.instanceMethod yJ0_charAt_5068e ∈ wAll := inA_wA_24 _ (List.mem_of_getElem? (i := 19) rfl)
theorem m_596 : Cond.selects RJ0 yJ0_charAt_5068e yJ0_charAt_5068e ∈ wAll := inA_wA_24 _ (List.mem_of_getElem? (i := 20) rfl)
theorem m_597 : Cond.fieldLink RX3 29 "CardBowl$Reader" "text" "[B" ∈ wAll := inA_wA_24 _ (List.mem_of_getElem? (i := 21) rfl)
theorem m_598 : Cond.code yX3_among cX3_among 7 (some .int) ∈ wAll := inA_wA_24 _ (List.mem_of_getElem? (i := 22) rfl)
theorem m_599 : Cond.fieldLink RX3 45 "CardBowl$Reader" "fault" "I" ∈ wAll := inA_wA_24 _ (List.mem_of_getElem? (i := 23) rfl)
theorem m_600 : Cond.fieldLink RX3 25 "CardBowl$Reader" "place" "I" ∈ wAll := inA_wA_25 _ (List.mem_of_getElem? (i := 0) rfl)
theorem m_601 : Cond.code yX3_refuse cX3_refuse 2 none ∈ wAll := inA_wA_25 _ (List.mem_of_getElem? (i := 1) rfl)
theorem m_602 : Cond.fieldLink RX3 39 "CardBowl$Reader" "size" "I" ∈ wAll := inA_wA_25 _ (List.mem_of_getElem? (i := 2) rfl)
theorem m_603 : Cond.code yX3_takeWord cX3_takeWord 1 none ∈ wAll := inA_wA_25 _ (List.mem_of_getElem? (i := 3) rfl)
theorem m_604 : Cond.fieldLink RX3 136 "CardBowl$Reader" "value" "I" ∈ wAll := inA_wA_25 _ (List.mem_of_getElem? (i := 4) rfl)
theorem m_605 : Cond.constant RX3 188 (1000000) ∈ wAll := inA_wA_25 _ (List.mem_of_getElem? (i := 5) rfl)
theorem m_606 : Cond.methodLink RX3 33 Lib.Math.min.name ∈ wAll := inA_wA_25 _ (List.mem_of_getElem? (i := 6) rfl)
theorem m_607 : Cond.code yX3_takeNumber cX3_takeNumber 1 none ∈ wAll := inA_wA_25 _ (List.mem_of_getElem? (i := 7) rfl)
theorem m_608 : Cond.initialized RX3 ∈ wAll := inA_wA_25 _ (List.mem_of_getElem? (i := 8) rfl)
theorem m_609 : Cond.methodLink RX3 182 yX3_takeWord ∈ wAll := inA_wA_25 _ (List.mem_of_getElem? (i := 9) rfl)
theorem m_610 : Cond.instanceMethod yX3_takeWord ∈ wAll := inA_wA_25 _ (List.mem_of_getElem? (i := 10) rfl)
theorem m_611 : Cond.selects RX3 yX3_takeWord yX3_takeWord ∈ wAll := inA_wA_25 _ (List.mem_of_getElem? (i := 11) rfl)
theorem m_612 : Cond.methodLink RX3 185 yX3_takeNumber ∈ wAll := inA_wA_25 _ (List.mem_of_getElem? (i := 12) rfl)
theorem m_613 : Cond.instanceMethod yX3_takeNumber ∈ wAll := inA_wA_25 _ (List.mem_of_getElem? (i := 13) rfl)
theorem m_614 : Cond.selects RX3 yX3_takeNumber yX3_takeNumber ∈ wAll := inA_wA_25 _ (List.mem_of_getElem? (i := 14) rfl)
theorem m_615 : Cond.code yX3_advance cX3_advance 1 none ∈ wAll := inA_wA_25 _ (List.mem_of_getElem? (i := 15) rfl)
theorem m_616 : Cond.methodLink RX3 52 yX3_advance ∈ wAll := inA_wA_25 _ (List.mem_of_getElem? (i := 16) rfl)
theorem m_617 : Cond.instanceMethod yX3_advance ∈ wAll := inA_wA_25 _ (List.mem_of_getElem? (i := 17) rfl)
theorem m_618 : Cond.selects RX3 yX3_advance yX3_advance ∈ wAll := inA_wA_25 _ (List.mem_of_getElem? (i := 18) rfl)
theorem m_619 : Cond.methodLink RX3 89 yX3_refuse ∈ wAll := inA_wA_25 _ (List.mem_of_getElem? (i := 19) rfl)
theorem m_620 : Cond.instanceMethod yX3_refuse ∈ wAll := inA_wA_25 _ (List.mem_of_getElem? (i := 20) rfl)
theorem m_621 : Cond.selects RX3 yX3_refuse yX3_refuse ∈ wAll := inA_wA_25 _ (List.mem_of_getElem? (i := 21) rfl)
theorem m_622 : Cond.code yX3_number cX3_number 4 (some .int) ∈ wAll := inA_wA_25 _ (List.mem_of_getElem? (i := 22) rfl)
theorem m_623 : Cond.methodLink RX3 60 yX3_among ∈ wAll := inA_wA_25 _ (List.mem_of_getElem? (i := 23) rfl)
theorem m_624 : Cond.instanceMethod yX3_among ∈ wAll := inA_wA_26 _ (List.mem_of_getElem? (i := 0) rfl)
theorem m_625 : Cond.selects RX3 yX3_among yX3_among ∈ wAll := inA_wA_26 _ (List.mem_of_getElem? (i := 1) rfl)
theorem m_626 : Cond.code yX3_choice cX3_choice 3 (some .int) ∈ wAll := inA_wA_26 _ (List.mem_of_getElem? (i := 2) rfl)
theorem m_627 : Cond.code yX3_takes cX3_takes 2 (some .boolean) ∈ wAll := inA_wA_26 _ (List.mem_of_getElem? (i := 3) rfl)
theorem m_628 : Cond.fieldLink RX3 21 "CardBowl$Reader" "code" "LCardBowl$Code;" ∈ wAll := inA_wA_26 _ (List.mem_of_getElem? (i := 4) rfl)
theorem m_629 : Cond.methodLink RX3 97 yX3_choice ∈ wAll := inA_wA_26 _ (List.mem_of_getElem? (i := 5) rfl)
theorem m_630 : Cond.instanceMethod yX3_choice ∈ wAll := inA_wA_26 _ (List.mem_of_getElem? (i := 6) rfl)
theorem m_631 : Cond.selects RX3 yX3_choice yX3_choice ∈ wAll := inA_wA_26 _ (List.mem_of_getElem? (i := 7) rfl)
theorem m_632 : Cond.methodLink RX3 80 yX3_number ∈ wAll := inA_wA_26 _ (List.mem_of_getElem? (i := 8) rfl)
theorem m_633 : Cond.instanceMethod yX3_number ∈ wAll := inA_wA_26 _ (List.mem_of_getElem? (i := 9) rfl)
theorem m_634 : Cond.selects RX3 yX3_number yX3_number ∈ wAll := inA_wA_26 _ (List.mem_of_getElem? (i := 10) rfl)
theorem m_635 : Cond.methodLink RX3 174 yX0_put ∈ wAll := inA_wA_26 _ (List.mem_of_getElem? (i := 11) rfl)
theorem m_636 : Cond.instanceMethod yX0_put ∈ wAll := inA_wA_26 _ (List.mem_of_getElem? (i := 12) rfl)
theorem m_637 : Cond.selects RX0 yX0_put yX0_put ∈ wAll := inA_wA_26 _ (List.mem_of_getElem? (i := 13) rfl)
theorem m_638 : Cond.code yX3_readTests cX3_readTests 7 none ∈ wAll := inA_wA_26 _ (List.mem_of_getElem? (i := 14) rfl)
theorem m_639 : Cond.fieldLink RX3 142 "CardBowl$Code" "lines" "I" ∈ wAll := inA_wA_26 _ (List.mem_of_getElem? (i := 15) rfl)
theorem m_640 : Cond.fieldLink RX3 147 "CardBowl$Code" "paying" "[I" ∈ wAll := inA_wA_26 _ (List.mem_of_getElem? (i := 16) rfl)
theorem m_641 : Cond.fieldLink RX3 150 "CardBowl$Code" "kind" "[I" ∈ wAll := inA_wA_26 _ (List.mem_of_getElem? (i := 17) rfl)
theorem m_642 : Cond.fieldLink RX3 156 "CardBowl$Code" "within" "[I" ∈ wAll := inA_wA_26 _ (List.mem_of_getElem? (i := 18) rfl)
theorem m_643 : Cond.fieldLink RX3 158 "CardBowl$Code" "start" "[I" ∈ wAll := inA_wA_26 _ (List.mem_of_getElem? (i := 19) rfl)
theorem m_644 : Cond.fieldLink RX3 161 "CardBowl$Code" "used" "I" ∈ wAll := inA_wA_26 _ (List.mem_of_getElem? (i := 20) rfl)
theorem m_645 : Cond.methodLink RX3 128 yX3_takes ∈ wAll := inA_wA_26 _ (List.mem_of_getElem? (i := 21) rfl)
theorem m_646 : Cond.instanceMethod yX3_takes ∈ wAll := inA_wA_26 _ (List.mem_of_getElem? (i := 22) rfl)
theorem m_647 : Cond.selects RX3 yX3_takes yX3_takes ∈ wAll := inA_wA_26 _ (List.mem_of_getElem? (i := 23) rfl)
theorem m_648 : Cond.methodLink RX3 166 yX3_readTests ∈ wAll := inA_wA_27 _ (List.mem_of_getElem? (i := 0) rfl)
theorem m_649 : Cond.instanceMethod yX3_readTests ∈ wAll := inA_wA_27 _ (List.mem_of_getElem? (i := 1) rfl)
theorem m_650 : Cond.selects RX3 yX3_readTests yX3_readTests ∈ wAll := inA_wA_27 _ (List.mem_of_getElem? (i := 2) rfl)
theorem m_651 : Cond.fieldLink RX3 169 "CardBowl$Code" "stop" "[I" ∈ wAll := inA_wA_27 _ (List.mem_of_getElem? (i := 3) rfl)
theorem m_652 : Cond.code yX3_readOwes cX3_readOwes 3 none ∈ wAll := inA_wA_27 _ (List.mem_of_getElem? (i := 4) rfl)
theorem m_653 : Cond.fieldLink RX3 12 "CardBowl$Reader" "town" "LCardBowl$Town;" ∈ wAll := inA_wA_27 _ (List.mem_of_getElem? (i := 5) rfl)
theorem m_654 : Cond.fieldLink RX3 92 "CardBowl$Town" "houses" "I" ∈ wAll := inA_wA_27 _ (List.mem_of_getElem? (i := 6) rfl)
theorem m_655 : Cond.fieldLink RX3 139 "CardBowl$Town" "told" "[I" ∈ wAll := inA_wA_27 _ (List.mem_of_getElem? (i := 7) rfl)
theorem m_656 : Cond.code yX3_readKnow cX3_readKnow 3 none ∈ wAll := inA_wA_27 _ (List.mem_of_getElem? (i := 8) rfl)
theorem m_657 : Cond.fieldLink RX3 100 "CardBowl$Town" "x" "[I" ∈ wAll := inA_wA_27 _ (List.mem_of_getElem? (i := 9) rfl)
theorem m_658 : Cond.fieldLink RX3 104 "CardBowl$Town" "y" "[I" ∈ wAll := inA_wA_27 _ (List.mem_of_getElem? (i := 10) rfl)
theorem m_659 : Cond.fieldLink RX3 109 "CardBowl$Town" "rank" "[I" ∈ wAll := inA_wA_27 _ (List.mem_of_getElem? (i := 11) rfl)
theorem m_660 : Cond.fieldLink RX3 113 "CardBowl$Town" "weekday" "[I" ∈ wAll := inA_wA_27 _ (List.mem_of_getElem? (i := 12) rfl)
theorem m_661 : Cond.fieldLink RX3 118 "CardBowl$Town" "from" "[I" ∈ wAll := inA_wA_27 _ (List.mem_of_getElem? (i := 13) rfl)
theorem m_662 : Cond.fieldLink RX3 121 "CardBowl$Town" "to" "[I" ∈ wAll := inA_wA_27 _ (List.mem_of_getElem? (i := 14) rfl)
theorem m_663 : Cond.fieldLink RX3 124 "CardBowl$Town" "came" "[I" ∈ wAll := inA_wA_27 _ (List.mem_of_getElem? (i := 15) rfl)
theorem m_664 : Cond.fieldLink RX3 132 "CardBowl$Town" "bride" "[I" ∈ wAll := inA_wA_27 _ (List.mem_of_getElem? (i := 16) rfl)
theorem m_665 : Cond.code yX3_readHouse cX3_readHouse 2 none ∈ wAll := inA_wA_27 _ (List.mem_of_getElem? (i := 17) rfl)
theorem m_666 : Cond.methodLink RX3 74 yX3_readHouse ∈ wAll := inA_wA_27 _ (List.mem_of_getElem? (i := 18) rfl)
theorem m_667 : Cond.instanceMethod yX3_readHouse ∈ wAll := inA_wA_27 _ (List.mem_of_getElem? (i := 19) rfl)
theorem m_668 : Cond.selects RX3 yX3_readHouse yX3_readHouse ∈ wAll := inA_wA_27 _ (List.mem_of_getElem? (i := 20) rfl)
theorem m_669 : Cond.methodLink RX3 77 yX3_readKnow ∈ wAll := inA_wA_27 _ (List.mem_of_getElem? (i := 21) rfl)
theorem m_670 : Cond.instanceMethod yX3_readKnow ∈ wAll := inA_wA_27 _ (List.mem_of_getElem? (i := 22) rfl)
theorem m_671 : Cond.selects RX3 yX3_readKnow yX3_readKnow ∈ wAll := inA_wA_27 _ (List.mem_of_getElem? (i := 23) rfl)
theorem m_672 : Cond.fieldLink RX3 83 "CardBowl$Town" "fresh" "I" ∈ wAll := inA_wA_28 _ (List.mem_of_getElem? (i := 0) rfl)
theorem m_673 : Cond.fieldLink RX3 86 "CardBowl$Town" "introducers" "I" ∈ wAll := inA_wA_28 _ (List.mem_of_getElem? (i := 1) rfl)
theorem m_674 : Cond.code yX3_readOther cX3_readOther 2 none ∈ wAll := inA_wA_28 _ (List.mem_of_getElem? (i := 2) rfl)
theorem m_675 : Cond.code yX3_closeLine cX3_closeLine 1 none ∈ wAll := inA_wA_28 _ (List.mem_of_getElem? (i := 3) rfl)
theorem m_676 : Cond.methodLink RX3 48 yX7_clear ∈ wAll := inA_wA_28 _ (List.mem_of_getElem? (i := 4) rfl)
theorem m_677 : Cond.instanceMethod yX7_clear ∈ wAll := inA_wA_28 _ (List.mem_of_getElem? (i := 5) rfl)
theorem m_678 : Cond.selects RX7 yX7_clear yX7_clear ∈ wAll := inA_wA_28 _ (List.mem_of_getElem? (i := 6) rfl)
theorem m_679 : Cond.methodLink RX3 51 yX0_clear ∈ wAll := inA_wA_28 _ (List.mem_of_getElem? (i := 7) rfl)
theorem m_680 : Cond.instanceMethod yX0_clear ∈ wAll := inA_wA_28 _ (List.mem_of_getElem? (i := 8) rfl)
theorem m_681 : Cond.selects RX0 yX0_clear yX0_clear ∈ wAll := inA_wA_28 _ (List.mem_of_getElem? (i := 9) rfl)
theorem m_682 : Cond.methodLink RX3 68 yX3_readOther ∈ wAll := inA_wA_28 _ (List.mem_of_getElem? (i := 10) rfl)
theorem m_683 : Cond.instanceMethod yX3_readOther ∈ wAll := inA_wA_28 _ (List.mem_of_getElem? (i := 11) rfl)
theorem m_684 : Cond.selects RX3 yX3_readOther yX3_readOther ∈ wAll := inA_wA_28 _ (List.mem_of_getElem? (i := 12) rfl)
theorem m_685 : Cond.methodLink RX3 64 yX3_readOwes ∈ wAll := inA_wA_28 _ (List.mem_of_getElem? (i := 13) rfl)
theorem m_686 : Cond.instanceMethod yX3_readOwes ∈ wAll := inA_wA_28 _ (List.mem_of_getElem? (i := 14) rfl)
theorem m_687 : Cond.selects RX3 yX3_readOwes yX3_readOwes ∈ wAll := inA_wA_28 _ (List.mem_of_getElem? (i := 15) rfl)
theorem m_688 : Cond.methodLink RX3 71 yX3_closeLine ∈ wAll := inA_wA_28 _ (List.mem_of_getElem? (i := 16) rfl)
theorem m_689 : Cond.instanceMethod yX3_closeLine ∈ wAll := inA_wA_28 _ (List.mem_of_getElem? (i := 17) rfl)
theorem m_690 : Cond.selects RX3 yX3_closeLine yX3_closeLine ∈ wAll := inA_wA_28 _ (List.mem_of_getElem? (i := 18) rfl)
theorem m_691 : Cond.code yX3_read cX3_read 5 none ∈ wAll := inA_wA_28 _ (List.mem_of_getElem? (i := 19) rfl)
theorem m_692 : Cond.methodLink RX9 71 yX3_read ∈ wAll := inA_wA_28 _ (List.mem_of_getElem? (i := 20) rfl)
theorem m_693 : Cond.instanceMethod yX3_read ∈ wAll := inA_wA_28 _ (List.mem_of_getElem? (i := 21) rfl)
theorem m_694 : Cond.selects RX3 yX3_read yX3_read ∈ wAll := inA_wA_28 _ (List.mem_of_getElem? (i := 22) rfl)
theorem m_695 : Cond.fieldLink RX9 78 "CardBowl$Reader" "town" "LCardBowl$Town;" ∈ wAll := inA_wA_28 _ (List.mem_of_getElem? (i := 23) rfl)
theorem m_696 : Cond.fieldLink RX9 82 "CardBowl$Reader" "code" "LCardBowl$Code;" ∈ wAll := inA_wA_29 _ (List.mem_of_getElem? (i := 0) rfl)
theorem m_697 : Cond.methodLink RX9 86 yX6_begin ∈ wAll := inA_wA_29 _ (List.mem_of_getElem? (i := 1) rfl)
theorem m_698 : Cond.instanceMethod yX6_begin ∈ wAll := inA_wA_29 _ (List.mem_of_getElem? (i := 2) rfl)
theorem m_699 : Cond.selects RX6 yX6_begin yX6_begin ∈ wAll := inA_wA_29 _ (List.mem_of_getElem? (i := 3) rfl)
theorem m_700 : Cond.code yX9_town cX9_town 1 (some .int) ∈ wAll := inA_wA_29 _ (List.mem_of_getElem? (i := 4) rfl)
theorem tb_1 : ∀ w ∈ tables_1_1, w ∈ lw_tbl := fun w h => List.mem_append_right _ (List.mem_append_left _ h)
theorem tb_2 : ∀ w ∈ tables_1_2, w ∈ lw_tbl := fun w h => List.mem_append_right _ (List.mem_append_right _ (List.mem_append_left _ h))
theorem tb_3 : ∀ w ∈ tables_1_3, w ∈ lw_tbl := fun w h => List.mem_append_right _ (List.mem_append_right _ (List.mem_append_right _ (List.mem_append_left _ h)))
theorem tb_4 : ∀ w ∈ tables_1_4, w ∈ lw_tbl := fun w h => List.mem_append_right _ (List.mem_append_right _ (List.mem_append_right _ (List.mem_append_right _ (List.mem_append_left _ h))))
theorem tb_5 : ∀ w ∈ tables_1_5, w ∈ lw_tbl := fun w h => List.mem_append_right _ (List.mem_append_right _ (List.mem_append_right _ (List.mem_append_right _ (List.mem_append_right _ (List.mem_append_left _ h)))))
theorem tb_6 : ∀ w ∈ tables_1_6, w ∈ lw_tbl := fun w h => List.mem_append_right _ (List.mem_append_right _ (List.mem_append_right _ (List.mem_append_right _ (List.mem_append_right _ (List.mem_append_right _ (List.mem_append_left _ h))))))
theorem tb_7 : ∀ w ∈ tables_1_7, w ∈ lw_tbl := fun w h => List.mem_append_right _ (List.mem_append_right _ (List.mem_append_right _ (List.mem_append_right _ (List.mem_append_right _ (List.mem_append_right _ (List.mem_append_right _ (List.mem_append_left _ h)))))))
theorem tb_8 : ∀ w ∈ tables_1_8, w ∈ lw_tbl := fun w h => List.mem_append_right _ (List.mem_append_right _ (List.mem_append_right _ (List.mem_append_right _ (List.mem_append_right _ (List.mem_append_right _ (List.mem_append_right _ (List.mem_append_right _ (h))))))))
theorem mem_r {big ws : List Cond} (ps : List Nat) (hp : ws = ps.filterMap (fun i => big[i]?)) : ∀ w ∈ ws, w ∈ big := by
  intro w hw
  rw [hp] at hw
  obtain ⟨i, -, hi⟩ := List.mem_filterMap.mp hw
  exact List.mem_of_getElem? hi
set_option maxRecDepth 20000 in
theorem t_0 : Cond.fieldLink RX7 43 "CardBowl$Town" "houses" "I" ∈ lw_tbl := tb_1 _ (List.mem_of_getElem? (i := 40) (by decide +kernel))
set_option maxRecDepth 20000 in
theorem t_1 : Cond.code yX7_has cX7_has 2 (some .boolean) ∈ lw_tbl := tb_3 _ (List.mem_of_getElem? (i := 199) rfl)
set_option maxRecDepth 20000 in
theorem t_2 : Cond.initialized RX7 ∈ lw_tbl := tb_1 _ (List.mem_of_getElem? (i := 3) (by decide +kernel))
set_option maxRecDepth 20000 in
theorem t_3 : Cond.methodLink RX7 61 yX7_has ∈ lw_tbl := tb_3 _ (List.mem_of_getElem? (i := 196) (by decide +kernel))
set_option maxRecDepth 20000 in
theorem t_4 : Cond.instanceMethod yX7_has ∈ lw_tbl := tb_3 _ (List.mem_of_getElem? (i := 197) (by decide +kernel))
set_option maxRecDepth 20000 in
theorem t_5 : Cond.selects RX7 yX7_has yX7_has ∈ lw_tbl := tb_3 _ (List.mem_of_getElem? (i := 198) (by decide +kernel))
set_option maxRecDepth 20000 in
theorem t_6 : Cond.code yX7_hasPair cX7_hasPair 3 (some .boolean) ∈ lw_tbl := tb_3 _ (List.mem_of_getElem? (i := 195) rfl)
set_option maxRecDepth 20000 in
theorem t_7 : Cond.fieldLink RX7 34 "CardBowl$Town" "came" "[I" ∈ lw_tbl := tb_1 _ (List.mem_of_getElem? (i := 76) (by decide +kernel))
set_option maxRecDepth 20000 in
theorem t_8 : Cond.code yX7_isThere cX7_isThere 3 (some .boolean) ∈ lw_tbl := tb_3 _ (List.mem_of_getElem? (i := 207) rfl)
set_option maxRecDepth 20000 in
theorem t_9 : Cond.fieldLink RX7 46 "CardBowl$Town" "fresh" "I" ∈ lw_tbl := tb_1 _ (List.mem_of_getElem? (i := 45) (by decide +kernel))
set_option maxRecDepth 20000 in
theorem t_10 : Cond.code yX7_isNew cX7_isNew 3 (some .boolean) ∈ lw_tbl := tb_3 _ (List.mem_of_getElem? (i := 219) rfl)
set_option maxRecDepth 20000 in
theorem t_11 : Cond.fieldLink RX7 37 "CardBowl$Town" "bride" "[I" ∈ lw_tbl := tb_1 _ (List.mem_of_getElem? (i := 79) (by decide +kernel))
set_option maxRecDepth 20000 in
theorem t_12 : Cond.code yX7_waits cX7_waits 3 (some .boolean) ∈ lw_tbl := tb_3 _ (List.mem_of_getElem? (i := 229) rfl)
set_option maxRecDepth 20000 in
theorem t_13 : Cond.fieldLink RX7 15 "CardBowl$Town" "x" "[I" ∈ lw_tbl := tb_1 _ (List.mem_of_getElem? (i := 53) (by decide +kernel))
set_option maxRecDepth 20000 in
theorem t_14 : Cond.methodLink RX7 65 Lib.Math.abs.name ∈ lw_tbl := tb_4 _ (List.mem_of_getElem? (i := 144) (by decide +kernel))
set_option maxRecDepth 20000 in
theorem t_15 : Cond.static Lib.Math.abs.name ∈ lw_tbl := tb_4 _ (List.mem_of_getElem? (i := 145) (by decide +kernel))
set_option maxRecDepth 20000 in
theorem t_16 : Cond.initialized "java/lang/Math" ∈ lw_tbl := tb_1 _ (List.mem_of_getElem? (i := 12) (by decide +kernel))
set_option maxRecDepth 20000 in
theorem t_17 : Cond.code Lib.Math.abs.name Lib.Math.abs.code 1 (some .int) ∈ lw_tbl := tb_4 _ (List.mem_of_getElem? (i := 146) rfl)
set_option maxRecDepth 20000 in
theorem t_18 : Cond.fieldLink RX7 19 "CardBowl$Town" "y" "[I" ∈ lw_tbl := tb_1 _ (List.mem_of_getElem? (i := 56) (by decide +kernel))
set_option maxRecDepth 20000 in
theorem t_19 : Cond.code yX7_minutes cX7_minutes 3 (some .int) ∈ lw_tbl := tb_4 _ (List.mem_of_getElem? (i := 143) rfl)
set_option maxRecDepth 20000 in
theorem t_20 : Cond.fieldLink RX1 30 "CardBowl$Debts" "kinds" "[I" ∈ lw_tbl := tb_1 _ (List.mem_of_getElem? (i := 225) (by decide +kernel))
set_option maxRecDepth 20000 in
theorem t_21 : Cond.code yX1_kindsOf cX1_kindsOf 3 (some .int) ∈ lw_tbl := tb_4 _ (List.mem_of_getElem? (i := 13) rfl)
set_option maxRecDepth 20000 in
theorem t_22 : Cond.fieldLink RX1 33 "CardBowl$Debts" "size" "I" ∈ lw_tbl := tb_1 _ (List.mem_of_getElem? (i := 209) (by decide +kernel))
set_option maxRecDepth 20000 in
theorem t_23 : Cond.fieldLink RX1 21 "CardBowl$Debts" "due" "[I" ∈ lw_tbl := tb_1 _ (List.mem_of_getElem? (i := 217) (by decide +kernel))
set_option maxRecDepth 20000 in
theorem t_24 : Cond.code yX1_overdue cX1_overdue 4 (some .int) ∈ lw_tbl := tb_5 _ (List.mem_of_getElem? (i := 112) rfl)
set_option maxRecDepth 20000 in
theorem t_25 : Cond.fieldLink RX1 15 "CardBowl$Debts" "creditor" "[I" ∈ lw_tbl := tb_1 _ (List.mem_of_getElem? (i := 212) (by decide +kernel))
set_option maxRecDepth 20000 in
theorem t_26 : Cond.code yX1_overdueTo cX1_overdueTo 5 (some .int) ∈ lw_tbl := tb_4 _ (List.mem_of_getElem? (i := 103) rfl)
set_option maxRecDepth 20000 in
theorem t_27 : Cond.fieldLink RX1 27 "CardBowl$Debts" "open" "[I" ∈ lw_tbl := tb_1 _ (List.mem_of_getElem? (i := 222) (by decide +kernel))
set_option maxRecDepth 20000 in
theorem t_28 : Cond.fieldLink RX1 9 "CardBowl$Debts" "debtor" "[I" ∈ lw_tbl := tb_1 _ (List.mem_of_getElem? (i := 211) (by decide +kernel))
set_option maxRecDepth 20000 in
theorem t_29 : Cond.code yX1_nth cX1_nth 5 (some .int) ∈ lw_tbl := tb_4 _ (List.mem_of_getElem? (i := 95) rfl)
set_option maxRecDepth 20000 in
theorem t_30 : Cond.fieldLink RX1 18 "CardBowl$Debts" "kind" "[I" ∈ lw_tbl := tb_1 _ (List.mem_of_getElem? (i := 215) (by decide +kernel))
set_option maxRecDepth 20000 in
theorem t_31 : Cond.fieldLink RX1 24 "CardBowl$Debts" "came" "[I" ∈ lw_tbl := tb_1 _ (List.mem_of_getElem? (i := 220) (by decide +kernel))
set_option maxRecDepth 20000 in
theorem t_32 : Cond.code yX1_add cX1_add 6 none ∈ lw_tbl := tb_4 _ (List.mem_of_getElem? (i := 48) rfl)
set_option maxRecDepth 20000 in
theorem t_33 : Cond.code yX1_move cX1_move 3 none ∈ lw_tbl := tb_4 _ (List.mem_of_getElem? (i := 17) rfl)
set_option maxRecDepth 20000 in
theorem t_34 : Cond.fieldLink RX2 24 "CardBowl$Deeds" "size" "I" ∈ lw_tbl := tb_2 _ (List.mem_of_getElem? (i := 9) (by decide +kernel))
set_option maxRecDepth 20000 in
theorem t_35 : Cond.code yX2_isFull cX2_isFull 1 (some .boolean) ∈ lw_tbl := tb_3 _ (List.mem_of_getElem? (i := 237) rfl)
set_option maxRecDepth 20000 in
theorem t_36 : Cond.fieldLink RX2 9 "CardBowl$Deeds" "who" "[I" ∈ lw_tbl := tb_2 _ (List.mem_of_getElem? (i := 12) (by decide +kernel))
set_option maxRecDepth 20000 in
theorem t_37 : Cond.fieldLink RX2 15 "CardBowl$Deeds" "whom" "[I" ∈ lw_tbl := tb_2 _ (List.mem_of_getElem? (i := 14) (by decide +kernel))
set_option maxRecDepth 20000 in
theorem t_38 : Cond.fieldLink RX2 18 "CardBowl$Deeds" "what" "[I" ∈ lw_tbl := tb_2 _ (List.mem_of_getElem? (i := 16) (by decide +kernel))
set_option maxRecDepth 20000 in
theorem t_39 : Cond.fieldLink RX2 21 "CardBowl$Deeds" "day" "[I" ∈ lw_tbl := tb_2 _ (List.mem_of_getElem? (i := 18) (by decide +kernel))
set_option maxRecDepth 20000 in
theorem t_40 : Cond.code yX2_add cX2_add 5 none ∈ lw_tbl := tb_4 _ (List.mem_of_getElem? (i := 52) rfl)
set_option maxRecDepth 20000 in
theorem t_41 : Cond.code yX2_callsBy cX2_callsBy 4 (some .int) ∈ lw_tbl := tb_5 _ (List.mem_of_getElem? (i := 89) rfl)
set_option maxRecDepth 20000 in
theorem t_42 : Cond.code yX2_callsTo cX2_callsTo 4 (some .int) ∈ lw_tbl := tb_5 _ (List.mem_of_getElem? (i := 93) rfl)
set_option maxRecDepth 20000 in
theorem t_43 : Cond.fieldLink RX5 23 "CardBowl$Slot" "size" "I" ∈ lw_tbl := tb_2 _ (List.mem_of_getElem? (i := 188) (by decide +kernel))
set_option maxRecDepth 20000 in
theorem t_44 : Cond.fieldLink RX5 9 "CardBowl$Slot" "numbers" "[J" ∈ lw_tbl := tb_2 _ (List.mem_of_getElem? (i := 191) (by decide +kernel))
set_option maxRecDepth 20000 in
theorem t_45 : Cond.constantLong RX5 32 (16) ∈ lw_tbl := tb_4 _ (List.mem_of_getElem? (i := 75) (by decide +kernel))
set_option maxRecDepth 20000 in
theorem t_46 : Cond.code yX5_small cX5_small 2 (some .int) ∈ lw_tbl := tb_4 _ (List.mem_of_getElem? (i := 74) rfl)
set_option maxRecDepth 20000 in
theorem t_47 : Cond.code yX5_hasRun cX5_hasRun 3 (some .boolean) ∈ lw_tbl := tb_5 _ (List.mem_of_getElem? (i := 165) rfl)
set_option maxRecDepth 20000 in
theorem t_48 : Cond.fieldLink RX0 33 "CardBowl$Code" "lines" "I" ∈ lw_tbl := tb_1 _ (List.mem_of_getElem? (i := 117) (by decide +kernel))
set_option maxRecDepth 20000 in
theorem t_49 : Cond.fieldLink RX0 37 "CardBowl$Code" "used" "I" ∈ lw_tbl := tb_1 _ (List.mem_of_getElem? (i := 120) (by decide +kernel))
set_option maxRecDepth 20000 in
theorem t_50 : Cond.code yX0_clear cX0_clear 1 none ∈ lw_tbl := tb_3 _ (List.mem_of_getElem? (i := 27) rfl)
set_option maxRecDepth 20000 in
theorem t_51 : Cond.fieldLink RX0 27 "CardBowl$Code" "tests" "[I" ∈ lw_tbl := tb_1 _ (List.mem_of_getElem? (i := 134) (by decide +kernel))
set_option maxRecDepth 20000 in
theorem t_52 : Cond.code yX0_put cX0_put 2 none ∈ lw_tbl := tb_3 _ (List.mem_of_getElem? (i := 126) rfl)
set_option maxRecDepth 20000 in
theorem t_53 : Cond.fieldLink RX0 30 "CardBowl$Code" "facts" "[I" ∈ lw_tbl := tb_1 _ (List.mem_of_getElem? (i := 135) (by decide +kernel))
set_option maxRecDepth 20000 in
theorem t_54 : Cond.code yX0_partOf cX0_partOf 2 (some .int) ∈ lw_tbl := tb_4 _ (List.mem_of_getElem? (i := 30) rfl)
set_option maxRecDepth 20000 in
theorem t_55 : Cond.code yJ7_fill_53178 cJ7_fill_53178 4 none ∈ lw_tbl := tb_3 _ (List.mem_of_getElem? (i := 23) rfl)
set_option maxRecDepth 20000 in
theorem t_56 : Cond.code yJ7_fill_d0a16 cJ7_fill_d0a16 5 none ∈ lw_tbl := tb_5 _ (List.mem_of_getElem? (i := 149) rfl)
set_option maxRecDepth 20000 in
theorem t_57 : Cond.constant RJ6 265 (1431655765) ∈ lw_tbl := tb_3 _ (List.mem_of_getElem? (i := 223) (by decide +kernel))
set_option maxRecDepth 20000 in
theorem t_58 : Cond.constant RJ6 266 (858993459) ∈ lw_tbl := tb_3 _ (List.mem_of_getElem? (i := 224) (by decide +kernel))
set_option maxRecDepth 20000 in
theorem t_59 : Cond.constant RJ6 267 (252645135) ∈ lw_tbl := tb_3 _ (List.mem_of_getElem? (i := 225) (by decide +kernel))
set_option maxRecDepth 20000 in
theorem t_60 : Cond.code yJ6_bitCount_0f7a4 cJ6_bitCount_0f7a4 1 (some .int) ∈ lw_tbl := tb_3 _ (List.mem_of_getElem? (i := 222) rfl)
set_option maxRecDepth 20000 in
theorem t_61 : Cond.constant RJ6 264 (65536) ∈ lw_tbl := tb_4 _ (List.mem_of_getElem? (i := 177) (by decide +kernel))
set_option maxRecDepth 20000 in
theorem t_62 : Cond.code yJ6_numberOfTrailingZeros_0f7a4 cJ6_numberOfTrailingZeros_0f7a4 2 (some .int) ∈ lw_tbl := tb_4 _ (List.mem_of_getElem? (i := 176) rfl)
set_option maxRecDepth 20000 in
theorem t_63 : Cond.fieldLink RX5 15 "CardBowl$Slot" "filled" "Z" ∈ lw_tbl := tb_2 _ (List.mem_of_getElem? (i := 184) (by decide +kernel))
set_option maxRecDepth 20000 in
theorem t_64 : Cond.fieldLink RX5 19 "CardBowl$Slot" "width" "I" ∈ lw_tbl := tb_2 _ (List.mem_of_getElem? (i := 186) (by decide +kernel))
set_option maxRecDepth 20000 in
theorem t_65 : Cond.initialized RJ7 ∈ lw_tbl := tb_1 _ (List.mem_of_getElem? (i := 13) (by decide +kernel))
set_option maxRecDepth 20000 in
theorem t_66 : Cond.methodLink RX5 26 yJ7_fill_d0a16 ∈ lw_tbl := tb_5 _ (List.mem_of_getElem? (i := 147) (by decide +kernel))
set_option maxRecDepth 20000 in
theorem t_67 : Cond.static yJ7_fill_d0a16 ∈ lw_tbl := tb_5 _ (List.mem_of_getElem? (i := 148) (by decide +kernel))
set_option maxRecDepth 20000 in
theorem t_68 : Cond.code yX5_lay cX5_lay 3 none ∈ lw_tbl := tb_5 _ (List.mem_of_getElem? (i := 146) rfl)
set_option maxRecDepth 20000 in
theorem t_69 : Cond.code yX5_cut cX5_cut 3 (some .long) ∈ lw_tbl := tb_5 _ (List.mem_of_getElem? (i := 157) rfl)
set_option maxRecDepth 20000 in
theorem t_70 : Cond.fieldLink RX7 11 "CardBowl$Town" "introducers" "I" ∈ lw_tbl := tb_1 _ (List.mem_of_getElem? (i := 48) (by decide +kernel))
set_option maxRecDepth 20000 in
theorem t_71 : Cond.fieldLink RX7 40 "CardBowl$Town" "told" "[I" ∈ lw_tbl := tb_1 _ (List.mem_of_getElem? (i := 81) (by decide +kernel))
set_option maxRecDepth 20000 in
theorem t_72 : Cond.methodLink RX7 49 yJ7_fill_53178 ∈ lw_tbl := tb_3 _ (List.mem_of_getElem? (i := 21) (by decide +kernel))
set_option maxRecDepth 20000 in
theorem t_73 : Cond.static yJ7_fill_53178 ∈ lw_tbl := tb_3 _ (List.mem_of_getElem? (i := 22) (by decide +kernel))
set_option maxRecDepth 20000 in
theorem t_74 : Cond.code yX7_clear cX7_clear 1 none ∈ lw_tbl := tb_3 _ (List.mem_of_getElem? (i := 20) rfl)
set_option maxRecDepth 20000 in
theorem t_75 : Cond.methodLink RX7 55 arraycopyName ∈ lw_tbl := tb_3 _ (List.mem_of_getElem? (i := 158) (by decide +kernel))
set_option maxRecDepth 20000 in
theorem t_76 : Cond.native arraycopyName ∈ lw_tbl := tb_3 _ (List.mem_of_getElem? (i := 160) (by decide +kernel))
set_option maxRecDepth 20000 in
theorem t_77 : Cond.static arraycopyName ∈ lw_tbl := tb_3 _ (List.mem_of_getElem? (i := 159) (by decide +kernel))
set_option maxRecDepth 20000 in
theorem t_78 : Cond.initialized "java/lang/System" ∈ lw_tbl := tb_1 _ (List.mem_of_getElem? (i := 18) (by decide +kernel))
set_option maxRecDepth 20000 in
theorem t_79 : Cond.fieldLink RX7 22 "CardBowl$Town" "rank" "[I" ∈ lw_tbl := tb_1 _ (List.mem_of_getElem? (i := 59) (by decide +kernel))
set_option maxRecDepth 20000 in
theorem t_80 : Cond.fieldLink RX7 25 "CardBowl$Town" "weekday" "[I" ∈ lw_tbl := tb_1 _ (List.mem_of_getElem? (i := 63) (by decide +kernel))
set_option maxRecDepth 20000 in
theorem t_81 : Cond.fieldLink RX7 28 "CardBowl$Town" "from" "[I" ∈ lw_tbl := tb_1 _ (List.mem_of_getElem? (i := 68) (by decide +kernel))
set_option maxRecDepth 20000 in
theorem t_82 : Cond.fieldLink RX7 31 "CardBowl$Town" "to" "[I" ∈ lw_tbl := tb_1 _ (List.mem_of_getElem? (i := 72) (by decide +kernel))
set_option maxRecDepth 20000 in
theorem t_83 : Cond.code yX7_copy cX7_copy 2 none ∈ lw_tbl := tb_3 _ (List.mem_of_getElem? (i := 157) rfl)
set_option maxRecDepth 20000 in
theorem t_84 : Cond.fieldLink RX0 9 "CardBowl$Code" "paying" "[I" ∈ lw_tbl := tb_1 _ (List.mem_of_getElem? (i := 122) (by decide +kernel))
set_option maxRecDepth 20000 in
theorem t_85 : Cond.methodLink RX0 40 arraycopyName ∈ lw_tbl := tb_3 _ (List.mem_of_getElem? (i := 165) (by decide +kernel))
set_option maxRecDepth 20000 in
theorem t_86 : Cond.fieldLink RX0 15 "CardBowl$Code" "kind" "[I" ∈ lw_tbl := tb_1 _ (List.mem_of_getElem? (i := 124) (by decide +kernel))
set_option maxRecDepth 20000 in
theorem t_87 : Cond.fieldLink RX0 18 "CardBowl$Code" "within" "[I" ∈ lw_tbl := tb_1 _ (List.mem_of_getElem? (i := 127) (by decide +kernel))
set_option maxRecDepth 20000 in
theorem t_88 : Cond.fieldLink RX0 21 "CardBowl$Code" "start" "[I" ∈ lw_tbl := tb_1 _ (List.mem_of_getElem? (i := 130) (by decide +kernel))
set_option maxRecDepth 20000 in
theorem t_89 : Cond.fieldLink RX0 24 "CardBowl$Code" "stop" "[I" ∈ lw_tbl := tb_1 _ (List.mem_of_getElem? (i := 132) (by decide +kernel))
set_option maxRecDepth 20000 in
theorem t_90 : Cond.code yX0_copy cX0_copy 2 none ∈ lw_tbl := tb_3 _ (List.mem_of_getElem? (i := 164) rfl)
set_option maxRecDepth 20000 in
theorem t_91 : Cond.constantLong RX0 72 (1000000000) ∈ lw_tbl := tb_4 _ (List.mem_of_getElem? (i := 35) (by decide +kernel))
set_option maxRecDepth 20000 in
theorem t_92 : Cond.constantLong RX0 74 (-1000000000) ∈ lw_tbl := tb_4 _ (List.mem_of_getElem? (i := 36) (by decide +kernel))
set_option maxRecDepth 20000 in
theorem t_93 : Cond.fieldLink RX0 56 "CardBowl$Code" "beyond" "Z" ∈ lw_tbl := tb_1 _ (List.mem_of_getElem? (i := 136) (by decide +kernel))
set_option maxRecDepth 20000 in
theorem t_94 : Cond.code yX0_bounded cX0_bounded 3 (some .long) ∈ lw_tbl := tb_4 _ (List.mem_of_getElem? (i := 34) rfl)
set_option maxRecDepth 20000 in
theorem t_95 : Cond.code yX0_compares cX0_compares 5 (some .boolean) ∈ lw_tbl := tb_4 _ (List.mem_of_getElem? (i := 39) rfl)
set_option maxRecDepth 20000 in
theorem t_96 : Cond.methodLink RX0 50 Lib.Math.min.name ∈ lw_tbl := tb_4 _ (List.mem_of_getElem? (i := 26) (by decide +kernel))
set_option maxRecDepth 20000 in
theorem t_97 : Cond.static Lib.Math.min.name ∈ lw_tbl := tb_3 _ (List.mem_of_getElem? (i := 15) (by decide +kernel))
set_option maxRecDepth 20000 in
theorem t_98 : Cond.code Lib.Math.min.name Lib.Math.min.code 2 (some .int) ∈ lw_tbl := tb_3 _ (List.mem_of_getElem? (i := 16) rfl)
set_option maxRecDepth 20000 in
theorem t_99 : Cond.initialized RX0 ∈ lw_tbl := tb_1 _ (List.mem_of_getElem? (i := 4) (by decide +kernel))
set_option maxRecDepth 20000 in
theorem t_100 : Cond.methodLink RX0 60 yX0_partOf ∈ lw_tbl := tb_4 _ (List.mem_of_getElem? (i := 27) (by decide +kernel))
set_option maxRecDepth 20000 in
theorem t_101 : Cond.instanceMethod yX0_partOf ∈ lw_tbl := tb_4 _ (List.mem_of_getElem? (i := 29) (by decide +kernel))
theorem t_102 : Cond.selects RX0 yX0_partOf yX0_partOf ∈ lw_tbl := List.mem_append_left _ (List.mem_of_getElem? (i := 21) (by decide +kernel))
set_option maxRecDepth 20000 in
theorem t_103 : Cond.methodLink RX0 64 yX0_bounded ∈ lw_tbl := tb_4 _ (List.mem_of_getElem? (i := 31) (by decide +kernel))
set_option maxRecDepth 20000 in
theorem t_104 : Cond.instanceMethod yX0_bounded ∈ lw_tbl := tb_4 _ (List.mem_of_getElem? (i := 33) (by decide +kernel))
theorem t_105 : Cond.selects RX0 yX0_bounded yX0_bounded ∈ lw_tbl := List.mem_append_left _ (List.mem_of_getElem? (i := 22) (by decide +kernel))
set_option maxRecDepth 20000 in
theorem t_106 : Cond.methodLink RX0 68 yX0_compares ∈ lw_tbl := tb_4 _ (List.mem_of_getElem? (i := 37) (by decide +kernel))
set_option maxRecDepth 20000 in
theorem t_107 : Cond.static yX0_compares ∈ lw_tbl := tb_4 _ (List.mem_of_getElem? (i := 38) (by decide +kernel))
set_option maxRecDepth 20000 in
theorem t_108 : Cond.code yX0_holds cX0_holds 13 (some .boolean) ∈ lw_tbl := tb_4 _ (List.mem_of_getElem? (i := 25) rfl)
set_option maxRecDepth 20000 in
theorem t_109 : Cond.methodLink RX0 46 yX0_holds ∈ lw_tbl := tb_4 _ (List.mem_of_getElem? (i := 22) (by decide +kernel))
set_option maxRecDepth 20000 in
theorem t_110 : Cond.instanceMethod yX0_holds ∈ lw_tbl := tb_4 _ (List.mem_of_getElem? (i := 24) (by decide +kernel))
theorem t_111 : Cond.selects RX0 yX0_holds yX0_holds ∈ lw_tbl := List.mem_append_left _ (List.mem_of_getElem? (i := 20) (by decide +kernel))
set_option maxRecDepth 20000 in
theorem t_112 : Cond.code yX0_lineFor cX0_lineFor 8 (some .int) ∈ lw_tbl := tb_4 _ (List.mem_of_getElem? (i := 21) rfl)
set_option maxRecDepth 20000 in
theorem t_113 : Cond.methodLink RX1 37 yJ7_fill_53178 ∈ lw_tbl := tb_3 _ (List.mem_of_getElem? (i := 170) (by decide +kernel))
set_option maxRecDepth 20000 in
theorem t_114 : Cond.code yX1_clear cX1_clear 1 none ∈ lw_tbl := tb_3 _ (List.mem_of_getElem? (i := 169) rfl)
set_option maxRecDepth 20000 in
theorem t_115 : Cond.methodLink RX1 43 arraycopyName ∈ lw_tbl := tb_5 _ (List.mem_of_getElem? (i := 129) (by decide +kernel))
set_option maxRecDepth 20000 in
theorem t_116 : Cond.code yX1_copy cX1_copy 2 none ∈ lw_tbl := tb_5 _ (List.mem_of_getElem? (i := 128) rfl)
set_option maxRecDepth 20000 in
theorem t_117 : Cond.initialized RX1 ∈ lw_tbl := tb_1 _ (List.mem_of_getElem? (i := 6) (by decide +kernel))
set_option maxRecDepth 20000 in
theorem t_118 : Cond.methodLink RX1 49 yX1_kindsOf ∈ lw_tbl := tb_4 _ (List.mem_of_getElem? (i := 10) (by decide +kernel))
set_option maxRecDepth 20000 in
theorem t_119 : Cond.instanceMethod yX1_kindsOf ∈ lw_tbl := tb_4 _ (List.mem_of_getElem? (i := 11) (by decide +kernel))
set_option maxRecDepth 20000 in
theorem t_120 : Cond.selects RX1 yX1_kindsOf yX1_kindsOf ∈ lw_tbl := tb_4 _ (List.mem_of_getElem? (i := 12) (by decide +kernel))
set_option maxRecDepth 20000 in
theorem t_121 : Cond.methodLink RX1 53 yX1_move ∈ lw_tbl := tb_4 _ (List.mem_of_getElem? (i := 14) (by decide +kernel))
set_option maxRecDepth 20000 in
theorem t_122 : Cond.instanceMethod yX1_move ∈ lw_tbl := tb_4 _ (List.mem_of_getElem? (i := 16) (by decide +kernel))
theorem t_123 : Cond.selects RX1 yX1_move yX1_move ∈ lw_tbl := List.mem_append_left _ (List.mem_of_getElem? (i := 19) (by decide +kernel))
set_option maxRecDepth 20000 in
theorem t_124 : Cond.code yX1_settle cX1_settle 7 (some .int) ∈ lw_tbl := tb_4 _ (List.mem_of_getElem? (i := 9) rfl)
set_option maxRecDepth 20000 in
theorem t_125 : Cond.methodLink RX2 28 arraycopyName ∈ lw_tbl := tb_5 _ (List.mem_of_getElem? (i := 134) (by decide +kernel))
set_option maxRecDepth 20000 in
theorem t_126 : Cond.code yX2_copy cX2_copy 2 none ∈ lw_tbl := tb_5 _ (List.mem_of_getElem? (i := 133) rfl)
set_option maxRecDepth 20000 in
theorem t_127 : Cond.fieldLink RX6 39 "CardBowl$State" "knows" "[I" ∈ lw_tbl := tb_2 _ (List.mem_of_getElem? (i := 42) (by decide +kernel))
set_option maxRecDepth 20000 in
theorem t_128 : Cond.code yX6_knew cX6_knew 3 (some .int) ∈ lw_tbl := tb_3 _ (List.mem_of_getElem? (i := 215) rfl)
set_option maxRecDepth 20000 in
theorem t_129 : Cond.code yX6_acquaint cX6_acquaint 3 none ∈ lw_tbl := tb_4 _ (List.mem_of_getElem? (i := 55) rfl)
set_option maxRecDepth 20000 in
theorem t_130 : Cond.initialized RX6 ∈ lw_tbl := tb_1 _ (List.mem_of_getElem? (i := 5) (by decide +kernel))
set_option maxRecDepth 20000 in
theorem t_131 : Cond.methodLink RX6 94 yX6_knew ∈ lw_tbl := tb_3 _ (List.mem_of_getElem? (i := 212) (by decide +kernel))
set_option maxRecDepth 20000 in
theorem t_132 : Cond.instanceMethod yX6_knew ∈ lw_tbl := tb_3 _ (List.mem_of_getElem? (i := 213) (by decide +kernel))
set_option maxRecDepth 20000 in
theorem t_133 : Cond.selects RX6 yX6_knew yX6_knew ∈ lw_tbl := tb_3 _ (List.mem_of_getElem? (i := 214) (by decide +kernel))
set_option maxRecDepth 20000 in
theorem t_134 : Cond.fieldLink RX6 12 "CardBowl$State" "town" "LCardBowl$Town;" ∈ lw_tbl := tb_2 _ (List.mem_of_getElem? (i := 31) (by decide +kernel))
set_option maxRecDepth 20000 in
theorem t_135 : Cond.fieldLink RX6 69 "CardBowl$State" "day" "I" ∈ lw_tbl := tb_2 _ (List.mem_of_getElem? (i := 44) (by decide +kernel))
set_option maxRecDepth 20000 in
theorem t_136 : Cond.methodLink RX6 98 yX7_isNew ∈ lw_tbl := tb_3 _ (List.mem_of_getElem? (i := 216) (by decide +kernel))
set_option maxRecDepth 20000 in
theorem t_137 : Cond.instanceMethod yX7_isNew ∈ lw_tbl := tb_3 _ (List.mem_of_getElem? (i := 217) (by decide +kernel))
set_option maxRecDepth 20000 in
theorem t_138 : Cond.selects RX7 yX7_isNew yX7_isNew ∈ lw_tbl := tb_3 _ (List.mem_of_getElem? (i := 218) (by decide +kernel))
set_option maxRecDepth 20000 in
theorem t_139 : Cond.initialized RJ6 ∈ lw_tbl := tb_1 _ (List.mem_of_getElem? (i := 19) (by decide +kernel))
set_option maxRecDepth 20000 in
theorem t_140 : Cond.methodLink RX6 101 yJ6_bitCount_0f7a4 ∈ lw_tbl := tb_3 _ (List.mem_of_getElem? (i := 220) (by decide +kernel))
set_option maxRecDepth 20000 in
theorem t_141 : Cond.static yJ6_bitCount_0f7a4 ∈ lw_tbl := tb_3 _ (List.mem_of_getElem? (i := 221) (by decide +kernel))
set_option maxRecDepth 20000 in
theorem t_142 : Cond.fieldLink RX6 107 "CardBowl$Town" "introducers" "I" ∈ lw_tbl := tb_1 _ (List.mem_of_getElem? (i := 51) (by decide +kernel))
set_option maxRecDepth 20000 in
theorem t_143 : Cond.code yX6_isOpenTo cX6_isOpenTo 3 (some .boolean) ∈ lw_tbl := tb_3 _ (List.mem_of_getElem? (i := 211) rfl)
set_option maxRecDepth 20000 in
theorem t_144 : Cond.methodLink RX6 81 yX7_isThere ∈ lw_tbl := tb_3 _ (List.mem_of_getElem? (i := 204) (by decide +kernel))
set_option maxRecDepth 20000 in
theorem t_145 : Cond.instanceMethod yX7_isThere ∈ lw_tbl := tb_3 _ (List.mem_of_getElem? (i := 205) (by decide +kernel))
set_option maxRecDepth 20000 in
theorem t_146 : Cond.selects RX7 yX7_isThere yX7_isThere ∈ lw_tbl := tb_3 _ (List.mem_of_getElem? (i := 206) (by decide +kernel))
set_option maxRecDepth 20000 in
theorem t_147 : Cond.methodLink RX6 85 yX6_isOpenTo ∈ lw_tbl := tb_3 _ (List.mem_of_getElem? (i := 208) (by decide +kernel))
set_option maxRecDepth 20000 in
theorem t_148 : Cond.instanceMethod yX6_isOpenTo ∈ lw_tbl := tb_3 _ (List.mem_of_getElem? (i := 210) (by decide +kernel))
theorem t_149 : Cond.selects RX6 yX6_isOpenTo yX6_isOpenTo ∈ lw_tbl := List.mem_append_left _ (List.mem_of_getElem? (i := 17) (by decide +kernel))
set_option maxRecDepth 20000 in
theorem t_150 : Cond.fieldLink RX6 88 "CardBowl$Town" "weekday" "[I" ∈ lw_tbl := tb_1 _ (List.mem_of_getElem? (i := 66) (by decide +kernel))
set_option maxRecDepth 20000 in
theorem t_151 : Cond.methodLink RX6 91 yX7_waits ∈ lw_tbl := tb_3 _ (List.mem_of_getElem? (i := 226) (by decide +kernel))
set_option maxRecDepth 20000 in
theorem t_152 : Cond.instanceMethod yX7_waits ∈ lw_tbl := tb_3 _ (List.mem_of_getElem? (i := 227) (by decide +kernel))
set_option maxRecDepth 20000 in
theorem t_153 : Cond.selects RX7 yX7_waits yX7_waits ∈ lw_tbl := tb_3 _ (List.mem_of_getElem? (i := 228) (by decide +kernel))
set_option maxRecDepth 20000 in
theorem t_154 : Cond.code yX6_barrier cX6_barrier 4 (some .int) ∈ lw_tbl := tb_3 _ (List.mem_of_getElem? (i := 203) rfl)
set_option maxRecDepth 20000 in
theorem t_155 : Cond.methodLink RX6 154 yX1_kindsOf ∈ lw_tbl := tb_4 _ (List.mem_of_getElem? (i := 43) (by decide +kernel))
set_option maxRecDepth 20000 in
theorem t_156 : Cond.code yX6_isOwed cX6_isOwed 4 (some .boolean) ∈ lw_tbl := tb_4 _ (List.mem_of_getElem? (i := 42) rfl)
set_option maxRecDepth 20000 in
theorem t_157 : Cond.methodLink RX6 122 yX1_settle ∈ lw_tbl := tb_4 _ (List.mem_of_getElem? (i := 6) (by decide +kernel))
set_option maxRecDepth 20000 in
theorem t_158 : Cond.instanceMethod yX1_settle ∈ lw_tbl := tb_4 _ (List.mem_of_getElem? (i := 7) (by decide +kernel))
set_option maxRecDepth 20000 in
theorem t_159 : Cond.selects RX1 yX1_settle yX1_settle ∈ lw_tbl := tb_4 _ (List.mem_of_getElem? (i := 8) (by decide +kernel))
set_option maxRecDepth 20000 in
theorem t_160 : Cond.fieldLink RX6 126 "CardBowl$Town" "rank" "[I" ∈ lw_tbl := tb_1 _ (List.mem_of_getElem? (i := 61) (by decide +kernel))
set_option maxRecDepth 20000 in
theorem t_161 : Cond.fieldLink RX6 129 "CardBowl$Debts" "open" "[I" ∈ lw_tbl := tb_1 _ (List.mem_of_getElem? (i := 223) (by decide +kernel))
set_option maxRecDepth 20000 in
theorem t_162 : Cond.methodLink RX6 132 yX0_lineFor ∈ lw_tbl := tb_4 _ (List.mem_of_getElem? (i := 18) (by decide +kernel))
set_option maxRecDepth 20000 in
theorem t_163 : Cond.instanceMethod yX0_lineFor ∈ lw_tbl := tb_4 _ (List.mem_of_getElem? (i := 19) (by decide +kernel))
set_option maxRecDepth 20000 in
theorem t_164 : Cond.selects RX0 yX0_lineFor yX0_lineFor ∈ lw_tbl := tb_4 _ (List.mem_of_getElem? (i := 20) (by decide +kernel))
set_option maxRecDepth 20000 in
theorem t_165 : Cond.fieldLink RX6 136 "CardBowl$Code" "kind" "[I" ∈ lw_tbl := tb_1 _ (List.mem_of_getElem? (i := 126) (by decide +kernel))
set_option maxRecDepth 20000 in
theorem t_166 : Cond.methodLink RX6 139 yX6_isOwed ∈ lw_tbl := tb_4 _ (List.mem_of_getElem? (i := 40) (by decide +kernel))
set_option maxRecDepth 20000 in
theorem t_167 : Cond.static yX6_isOwed ∈ lw_tbl := tb_4 _ (List.mem_of_getElem? (i := 41) (by decide +kernel))
set_option maxRecDepth 20000 in
theorem t_168 : Cond.fieldLink RX6 143 "CardBowl$Code" "within" "[I" ∈ lw_tbl := tb_1 _ (List.mem_of_getElem? (i := 129) (by decide +kernel))
set_option maxRecDepth 20000 in
theorem t_169 : Cond.methodLink RX6 146 Lib.Math.min.name ∈ lw_tbl := tb_4 _ (List.mem_of_getElem? (i := 44) (by decide +kernel))
set_option maxRecDepth 20000 in
theorem t_170 : Cond.methodLink RX6 151 yX1_add ∈ lw_tbl := tb_4 _ (List.mem_of_getElem? (i := 45) (by decide +kernel))
set_option maxRecDepth 20000 in
theorem t_171 : Cond.instanceMethod yX1_add ∈ lw_tbl := tb_4 _ (List.mem_of_getElem? (i := 46) (by decide +kernel))
set_option maxRecDepth 20000 in
theorem t_172 : Cond.selects RX1 yX1_add yX1_add ∈ lw_tbl := tb_4 _ (List.mem_of_getElem? (i := 47) (by decide +kernel))
set_option maxRecDepth 20000 in
theorem t_173 : Cond.code yX6_deal cX6_deal 10 (some .int) ∈ lw_tbl := tb_4 _ (List.mem_of_getElem? (i := 5) rfl)
set_option maxRecDepth 20000 in
theorem t_174 : Cond.fieldLink RX6 28 "CardBowl$State" "debts" "LCardBowl$Debts;" ∈ lw_tbl := tb_2 _ (List.mem_of_getElem? (i := 37) (by decide +kernel))
set_option maxRecDepth 20000 in
theorem t_175 : Cond.fieldLink RX6 21 "CardBowl$State" "code" "LCardBowl$Code;" ∈ lw_tbl := tb_2 _ (List.mem_of_getElem? (i := 35) (by decide +kernel))
set_option maxRecDepth 20000 in
theorem t_176 : Cond.methodLink RX6 110 yX6_deal ∈ lw_tbl := tb_4 _ (List.mem_of_getElem? (i := 2) (by decide +kernel))
set_option maxRecDepth 20000 in
theorem t_177 : Cond.instanceMethod yX6_deal ∈ lw_tbl := tb_4 _ (List.mem_of_getElem? (i := 4) (by decide +kernel))
theorem t_178 : Cond.selects RX6 yX6_deal yX6_deal ∈ lw_tbl := List.mem_append_left _ (List.mem_of_getElem? (i := 18) (by decide +kernel))
set_option maxRecDepth 20000 in
theorem t_179 : Cond.fieldLink RX6 72 "CardBowl$State" "paid" "I" ∈ lw_tbl := tb_2 _ (List.mem_of_getElem? (i := 48) (by decide +kernel))
set_option maxRecDepth 20000 in
theorem t_180 : Cond.fieldLink RX6 35 "CardBowl$State" "deeds" "LCardBowl$Deeds;" ∈ lw_tbl := tb_2 _ (List.mem_of_getElem? (i := 40) (by decide +kernel))
set_option maxRecDepth 20000 in
theorem t_181 : Cond.initialized RX2 ∈ lw_tbl := tb_1 _ (List.mem_of_getElem? (i := 7) (by decide +kernel))
set_option maxRecDepth 20000 in
theorem t_182 : Cond.methodLink RX6 114 yX2_add ∈ lw_tbl := tb_4 _ (List.mem_of_getElem? (i := 49) (by decide +kernel))
set_option maxRecDepth 20000 in
theorem t_183 : Cond.instanceMethod yX2_add ∈ lw_tbl := tb_4 _ (List.mem_of_getElem? (i := 50) (by decide +kernel))
set_option maxRecDepth 20000 in
theorem t_184 : Cond.selects RX2 yX2_add yX2_add ∈ lw_tbl := tb_4 _ (List.mem_of_getElem? (i := 51) (by decide +kernel))
set_option maxRecDepth 20000 in
theorem t_185 : Cond.methodLink RX6 118 yX6_acquaint ∈ lw_tbl := tb_4 _ (List.mem_of_getElem? (i := 53) (by decide +kernel))
set_option maxRecDepth 20000 in
theorem t_186 : Cond.static yX6_acquaint ∈ lw_tbl := tb_4 _ (List.mem_of_getElem? (i := 54) (by decide +kernel))
set_option maxRecDepth 20000 in
theorem t_187 : Cond.code yX6_act cX6_act 5 (some .int) ∈ lw_tbl := tb_4 _ (List.mem_of_getElem? (i := 1) rfl)
set_option maxRecDepth 20000 in
theorem t_188 : Cond.code yX6_chance cX6_chance 4 (some .int) ∈ lw_tbl := tb_4 _ (List.mem_of_getElem? (i := 63) rfl)
set_option maxRecDepth 20000 in
theorem t_189 : Cond.code yX6_wouldMake cX6_wouldMake 5 (some .int) ∈ lw_tbl := tb_4 _ (List.mem_of_getElem? (i := 115) rfl)
set_option maxRecDepth 20000 in
theorem t_190 : Cond.methodLink RX6 53 yX1_clear ∈ lw_tbl := tb_3 _ (List.mem_of_getElem? (i := 166) (by decide +kernel))
set_option maxRecDepth 20000 in
theorem t_191 : Cond.instanceMethod yX1_clear ∈ lw_tbl := tb_3 _ (List.mem_of_getElem? (i := 167) (by decide +kernel))
set_option maxRecDepth 20000 in
theorem t_192 : Cond.selects RX1 yX1_clear yX1_clear ∈ lw_tbl := tb_3 _ (List.mem_of_getElem? (i := 168) (by decide +kernel))
set_option maxRecDepth 20000 in
theorem t_193 : Cond.fieldLink RX6 60 "CardBowl$Town" "told" "[I" ∈ lw_tbl := tb_1 _ (List.mem_of_getElem? (i := 82) (by decide +kernel))
set_option maxRecDepth 20000 in
theorem t_194 : Cond.methodLink RX6 63 arraycopyName ∈ lw_tbl := tb_3 _ (List.mem_of_getElem? (i := 171) (by decide +kernel))
set_option maxRecDepth 20000 in
theorem t_195 : Cond.fieldLink RX6 56 "CardBowl$Deeds" "size" "I" ∈ lw_tbl := tb_2 _ (List.mem_of_getElem? (i := 10) (by decide +kernel))
set_option maxRecDepth 20000 in
theorem t_196 : Cond.fieldLink RX6 157 "CardBowl$Deeds" "who" "[I" ∈ lw_tbl := tb_2 _ (List.mem_of_getElem? (i := 13) (by decide +kernel))
set_option maxRecDepth 20000 in
theorem t_197 : Cond.fieldLink RX6 160 "CardBowl$Deeds" "whom" "[I" ∈ lw_tbl := tb_2 _ (List.mem_of_getElem? (i := 15) (by decide +kernel))
set_option maxRecDepth 20000 in
theorem t_198 : Cond.fieldLink RX6 163 "CardBowl$Deeds" "what" "[I" ∈ lw_tbl := tb_2 _ (List.mem_of_getElem? (i := 17) (by decide +kernel))
set_option maxRecDepth 20000 in
theorem t_199 : Cond.fieldLink RX6 166 "CardBowl$Deeds" "day" "[I" ∈ lw_tbl := tb_2 _ (List.mem_of_getElem? (i := 19) (by decide +kernel))
set_option maxRecDepth 20000 in
theorem t_200 : Cond.code yX6_replay cX6_replay 8 none ∈ lw_tbl := tb_5 _ (List.mem_of_getElem? (i := 104) rfl)
set_option maxRecDepth 20000 in
theorem t_201 : Cond.code yX6_hanging cX6_hanging 8 (some .int) ∈ lw_tbl := tb_5 _ (List.mem_of_getElem? (i := 45) rfl)
set_option maxRecDepth 20000 in
theorem t_202 : Cond.methodLink RX6 168 yX6_hanging ∈ lw_tbl := tb_5 _ (List.mem_of_getElem? (i := 58) (by decide +kernel))
set_option maxRecDepth 20000 in
theorem t_203 : Cond.instanceMethod yX6_hanging ∈ lw_tbl := tb_5 _ (List.mem_of_getElem? (i := 43) (by decide +kernel))
set_option maxRecDepth 20000 in
theorem t_204 : Cond.selects RX6 yX6_hanging yX6_hanging ∈ lw_tbl := tb_5 _ (List.mem_of_getElem? (i := 44) (by decide +kernel))
set_option maxRecDepth 20000 in
theorem t_205 : Cond.code yX6_holdsTogether cX6_holdsTogether 3 (some .boolean) ∈ lw_tbl := tb_5 _ (List.mem_of_getElem? (i := 57) rfl)
set_option maxRecDepth 20000 in
theorem t_206 : Cond.methodLink RX6 171 yX6_holdsTogether ∈ lw_tbl := tb_5 _ (List.mem_of_getElem? (i := 54) (by decide +kernel))
set_option maxRecDepth 20000 in
theorem t_207 : Cond.instanceMethod yX6_holdsTogether ∈ lw_tbl := tb_5 _ (List.mem_of_getElem? (i := 55) (by decide +kernel))
set_option maxRecDepth 20000 in
theorem t_208 : Cond.selects RX6 yX6_holdsTogether yX6_holdsTogether ∈ lw_tbl := tb_5 _ (List.mem_of_getElem? (i := 56) (by decide +kernel))
set_option maxRecDepth 20000 in
theorem t_209 : Cond.code yX6_canDrop cX6_canDrop 3 (some .boolean) ∈ lw_tbl := tb_5 _ (List.mem_of_getElem? (i := 53) rfl)
set_option maxRecDepth 20000 in
theorem t_210 : Cond.fieldLink RX6 43 "CardBowl$State" "follows" "[I" ∈ lw_tbl := tb_2 _ (List.mem_of_getElem? (i := 50) (by decide +kernel))
set_option maxRecDepth 20000 in
theorem t_211 : Cond.code yX6_followCalls cX6_followCalls 3 none ∈ lw_tbl := tb_5 _ (List.mem_of_getElem? (i := 71) rfl)
set_option maxRecDepth 20000 in
theorem t_212 : Cond.code yX6_ringBits cX6_ringBits 4 (some .int) ∈ lw_tbl := tb_5 _ (List.mem_of_getElem? (i := 75) rfl)
set_option maxRecDepth 20000 in
theorem t_213 : Cond.methodLink RX6 46 yX7_copy ∈ lw_tbl := tb_3 _ (List.mem_of_getElem? (i := 154) (by decide +kernel))
set_option maxRecDepth 20000 in
theorem t_214 : Cond.instanceMethod yX7_copy ∈ lw_tbl := tb_3 _ (List.mem_of_getElem? (i := 155) (by decide +kernel))
set_option maxRecDepth 20000 in
theorem t_215 : Cond.selects RX7 yX7_copy yX7_copy ∈ lw_tbl := tb_3 _ (List.mem_of_getElem? (i := 156) (by decide +kernel))
set_option maxRecDepth 20000 in
theorem t_216 : Cond.methodLink RX6 50 yX0_copy ∈ lw_tbl := tb_3 _ (List.mem_of_getElem? (i := 161) (by decide +kernel))
set_option maxRecDepth 20000 in
theorem t_217 : Cond.instanceMethod yX0_copy ∈ lw_tbl := tb_3 _ (List.mem_of_getElem? (i := 162) (by decide +kernel))
set_option maxRecDepth 20000 in
theorem t_218 : Cond.selects RX0 yX0_copy yX0_copy ∈ lw_tbl := tb_3 _ (List.mem_of_getElem? (i := 163) (by decide +kernel))
set_option maxRecDepth 20000 in
theorem t_219 : Cond.code yX6_begin cX6_begin 3 none ∈ lw_tbl := tb_3 _ (List.mem_of_getElem? (i := 153) rfl)
set_option maxRecDepth 20000 in
theorem t_220 : Cond.methodLink RX6 75 yX1_copy ∈ lw_tbl := tb_5 _ (List.mem_of_getElem? (i := 125) (by decide +kernel))
set_option maxRecDepth 20000 in
theorem t_221 : Cond.instanceMethod yX1_copy ∈ lw_tbl := tb_5 _ (List.mem_of_getElem? (i := 126) (by decide +kernel))
set_option maxRecDepth 20000 in
theorem t_222 : Cond.selects RX1 yX1_copy yX1_copy ∈ lw_tbl := tb_5 _ (List.mem_of_getElem? (i := 127) (by decide +kernel))
set_option maxRecDepth 20000 in
theorem t_223 : Cond.methodLink RX6 78 yX2_copy ∈ lw_tbl := tb_5 _ (List.mem_of_getElem? (i := 130) (by decide +kernel))
set_option maxRecDepth 20000 in
theorem t_224 : Cond.instanceMethod yX2_copy ∈ lw_tbl := tb_5 _ (List.mem_of_getElem? (i := 131) (by decide +kernel))
set_option maxRecDepth 20000 in
theorem t_225 : Cond.selects RX2 yX2_copy yX2_copy ∈ lw_tbl := tb_5 _ (List.mem_of_getElem? (i := 132) (by decide +kernel))
set_option maxRecDepth 20000 in
theorem t_226 : Cond.code yX6_copy cX6_copy 2 none ∈ lw_tbl := tb_5 _ (List.mem_of_getElem? (i := 124) rfl)
set_option maxRecDepth 20000 in
theorem t_227 : Cond.fieldLink RX4 67 "CardBowl$State" "debts" "LCardBowl$Debts;" ∈ lw_tbl := tb_2 _ (List.mem_of_getElem? (i := 38) (by decide +kernel))
set_option maxRecDepth 20000 in
theorem t_228 : Cond.methodLink RX4 71 yX1_kindsOf ∈ lw_tbl := tb_4 _ (List.mem_of_getElem? (i := 128) (by decide +kernel))
set_option maxRecDepth 20000 in
theorem t_229 : Cond.code yX4_isByCall cX4_isByCall 3 (some .boolean) ∈ lw_tbl := tb_4 _ (List.mem_of_getElem? (i := 139) rfl)
set_option maxRecDepth 20000 in
theorem t_230 : Cond.initialized RX4 ∈ lw_tbl := tb_1 _ (List.mem_of_getElem? (i := 8) (by decide +kernel))
set_option maxRecDepth 20000 in
theorem t_231 : Cond.methodLink RX4 108 yX4_isByCall ∈ lw_tbl := tb_4 _ (List.mem_of_getElem? (i := 137) (by decide +kernel))
set_option maxRecDepth 20000 in
theorem t_232 : Cond.static yX4_isByCall ∈ lw_tbl := tb_4 _ (List.mem_of_getElem? (i := 138) (by decide +kernel))
set_option maxRecDepth 20000 in
theorem t_233 : Cond.fieldLink RX4 56 "CardBowl$State" "town" "LCardBowl$Town;" ∈ lw_tbl := tb_2 _ (List.mem_of_getElem? (i := 32) (by decide +kernel))
set_option maxRecDepth 20000 in
theorem t_234 : Cond.fieldLink RX4 118 "CardBowl$Town" "weekday" "[I" ∈ lw_tbl := tb_1 _ (List.mem_of_getElem? (i := 65) (by decide +kernel))
set_option maxRecDepth 20000 in
theorem t_235 : Cond.code yX4_isAtHome cX4_isAtHome 4 (some .boolean) ∈ lw_tbl := tb_4 _ (List.mem_of_getElem? (i := 153) rfl)
set_option maxRecDepth 20000 in
theorem t_236 : Cond.fieldLink RX4 28 "CardBowl$Rounds" "opens" "[I" ∈ lw_tbl := tb_2 _ (List.mem_of_getElem? (i := 92) (by decide +kernel))
set_option maxRecDepth 20000 in
theorem t_237 : Cond.fieldLink RX4 112 "CardBowl$Town" "from" "[I" ∈ lw_tbl := tb_1 _ (List.mem_of_getElem? (i := 69) (by decide +kernel))
set_option maxRecDepth 20000 in
theorem t_238 : Cond.fieldLink RX4 31 "CardBowl$Rounds" "closes" "[I" ∈ lw_tbl := tb_2 _ (List.mem_of_getElem? (i := 93) (by decide +kernel))
set_option maxRecDepth 20000 in
theorem t_239 : Cond.fieldLink RX4 115 "CardBowl$Town" "to" "[I" ∈ lw_tbl := tb_1 _ (List.mem_of_getElem? (i := 73) (by decide +kernel))
set_option maxRecDepth 20000 in
theorem t_240 : Cond.fieldLink RX4 34 "CardBowl$Rounds" "stays" "[I" ∈ lw_tbl := tb_2 _ (List.mem_of_getElem? (i := 94) (by decide +kernel))
set_option maxRecDepth 20000 in
theorem t_241 : Cond.code yX4_lookAt cX4_lookAt 5 none ∈ lw_tbl := tb_4 _ (List.mem_of_getElem? (i := 136) rfl)
set_option maxRecDepth 20000 in
theorem t_242 : Cond.fieldLink RX4 53 "CardBowl$Rounds" "spots" "I" ∈ lw_tbl := tb_2 _ (List.mem_of_getElem? (i := 89) (by decide +kernel))
set_option maxRecDepth 20000 in
theorem t_243 : Cond.fieldLink RX4 22 "CardBowl$Rounds" "spot" "[I" ∈ lw_tbl := tb_2 _ (List.mem_of_getElem? (i := 90) (by decide +kernel))
set_option maxRecDepth 20000 in
theorem t_244 : Cond.methodLink RX4 101 yX4_lookAt ∈ lw_tbl := tb_4 _ (List.mem_of_getElem? (i := 133) (by decide +kernel))
set_option maxRecDepth 20000 in
theorem t_245 : Cond.instanceMethod yX4_lookAt ∈ lw_tbl := tb_4 _ (List.mem_of_getElem? (i := 135) (by decide +kernel))
theorem t_246 : Cond.selects RX4 yX4_lookAt yX4_lookAt ∈ lw_tbl := List.mem_append_left _ (List.mem_of_getElem? (i := 25) (by decide +kernel))
set_option maxRecDepth 20000 in
theorem t_247 : Cond.fieldLink RX4 37 "CardBowl$Rounds" "apart" "[I" ∈ lw_tbl := tb_2 _ (List.mem_of_getElem? (i := 95) (by decide +kernel))
set_option maxRecDepth 20000 in
theorem t_248 : Cond.methodLink RX4 105 yX7_minutes ∈ lw_tbl := tb_4 _ (List.mem_of_getElem? (i := 140) (by decide +kernel))
set_option maxRecDepth 20000 in
theorem t_249 : Cond.instanceMethod yX7_minutes ∈ lw_tbl := tb_4 _ (List.mem_of_getElem? (i := 141) (by decide +kernel))
set_option maxRecDepth 20000 in
theorem t_250 : Cond.selects RX7 yX7_minutes yX7_minutes ∈ lw_tbl := tb_4 _ (List.mem_of_getElem? (i := 142) (by decide +kernel))
set_option maxRecDepth 20000 in
theorem t_251 : Cond.code yX4_lookAtSpots cX4_lookAtSpots 6 none ∈ lw_tbl := tb_4 _ (List.mem_of_getElem? (i := 132) rfl)
set_option maxRecDepth 20000 in
theorem t_252 : Cond.fieldLink RX4 15 "CardBowl$Rounds" "owner" "I" ∈ lw_tbl := tb_2 _ (List.mem_of_getElem? (i := 87) (by decide +kernel))
set_option maxRecDepth 20000 in
theorem t_253 : Cond.methodLink RX4 120 yX4_isAtHome ∈ lw_tbl := tb_4 _ (List.mem_of_getElem? (i := 151) (by decide +kernel))
set_option maxRecDepth 20000 in
theorem t_254 : Cond.static yX4_isAtHome ∈ lw_tbl := tb_4 _ (List.mem_of_getElem? (i := 152) (by decide +kernel))
set_option maxRecDepth 20000 in
theorem t_255 : Cond.code yX4_openSpots cX4_openSpots 5 (some .int) ∈ lw_tbl := tb_4 _ (List.mem_of_getElem? (i := 150) rfl)
set_option maxRecDepth 20000 in
theorem t_256 : Cond.methodLink RX4 124 Lib.Math.max.name ∈ lw_tbl := tb_4 _ (List.mem_of_getElem? (i := 167) (by decide +kernel))
set_option maxRecDepth 20000 in
theorem t_257 : Cond.static Lib.Math.max.name ∈ lw_tbl := tb_4 _ (List.mem_of_getElem? (i := 168) (by decide +kernel))
set_option maxRecDepth 20000 in
theorem t_258 : Cond.code Lib.Math.max.name Lib.Math.max.code 2 (some .int) ∈ lw_tbl := tb_4 _ (List.mem_of_getElem? (i := 169) rfl)
set_option maxRecDepth 20000 in
theorem t_259 : Cond.code yX4_seen cX4_seen 4 (some .int) ∈ lw_tbl := tb_4 _ (List.mem_of_getElem? (i := 166) rfl)
set_option maxRecDepth 20000 in
theorem t_260 : Cond.fieldLink RX4 43 "CardBowl$Rounds" "soonest" "[I" ∈ lw_tbl := tb_2 _ (List.mem_of_getElem? (i := 97) (by decide +kernel))
set_option maxRecDepth 20000 in
theorem t_261 : Cond.fieldLink RX4 40 "CardBowl$Rounds" "minute" "[I" ∈ lw_tbl := tb_2 _ (List.mem_of_getElem? (i := 96) (by decide +kernel))
set_option maxRecDepth 20000 in
theorem t_262 : Cond.methodLink RX4 136 Lib.Math.min.name ∈ lw_tbl := tb_4 _ (List.mem_of_getElem? (i := 162) (by decide +kernel))
set_option maxRecDepth 20000 in
theorem t_263 : Cond.code yX4_arrival cX4_arrival 7 (some .int) ∈ lw_tbl := tb_4 _ (List.mem_of_getElem? (i := 161) rfl)
set_option maxRecDepth 20000 in
theorem t_264 : Cond.methodLink RX4 129 yX4_arrival ∈ lw_tbl := tb_4 _ (List.mem_of_getElem? (i := 158) (by decide +kernel))
set_option maxRecDepth 20000 in
theorem t_265 : Cond.instanceMethod yX4_arrival ∈ lw_tbl := tb_4 _ (List.mem_of_getElem? (i := 160) (by decide +kernel))
theorem t_266 : Cond.selects RX4 yX4_arrival yX4_arrival ∈ lw_tbl := List.mem_append_left _ (List.mem_of_getElem? (i := 28) (by decide +kernel))
set_option maxRecDepth 20000 in
theorem t_267 : Cond.methodLink RX4 133 yX4_seen ∈ lw_tbl := tb_4 _ (List.mem_of_getElem? (i := 163) (by decide +kernel))
set_option maxRecDepth 20000 in
theorem t_268 : Cond.instanceMethod yX4_seen ∈ lw_tbl := tb_4 _ (List.mem_of_getElem? (i := 165) (by decide +kernel))
theorem t_269 : Cond.selects RX4 yX4_seen yX4_seen ∈ lw_tbl := List.mem_append_left _ (List.mem_of_getElem? (i := 29) (by decide +kernel))
set_option maxRecDepth 20000 in
theorem t_270 : Cond.code yX4_reckonMinutes cX4_reckonMinutes 8 none ∈ lw_tbl := tb_4 _ (List.mem_of_getElem? (i := 157) rfl)
set_option maxRecDepth 20000 in
theorem t_271 : Cond.code yX4_worthOf cX4_worthOf 3 (some .int) ∈ lw_tbl := tb_4 _ (List.mem_of_getElem? (i := 180) rfl)
set_option maxRecDepth 20000 in
theorem t_272 : Cond.fieldLink RX4 139 "CardBowl$Rounds" "bestWorth" "I" ∈ lw_tbl := tb_2 _ (List.mem_of_getElem? (i := 79) (by decide +kernel))
set_option maxRecDepth 20000 in
theorem t_273 : Cond.fieldLink RX4 92 "CardBowl$Rounds" "bestOver" "I" ∈ lw_tbl := tb_2 _ (List.mem_of_getElem? (i := 81) (by decide +kernel))
set_option maxRecDepth 20000 in
theorem t_274 : Cond.fieldLink RX4 46 "CardBowl$Rounds" "sums" "[I" ∈ lw_tbl := tb_2 _ (List.mem_of_getElem? (i := 98) (by decide +kernel))
set_option maxRecDepth 20000 in
theorem t_275 : Cond.methodLink RX4 142 yJ6_numberOfTrailingZeros_0f7a4 ∈ lw_tbl := tb_4 _ (List.mem_of_getElem? (i := 174) (by decide +kernel))
set_option maxRecDepth 20000 in
theorem t_276 : Cond.static yJ6_numberOfTrailingZeros_0f7a4 ∈ lw_tbl := tb_4 _ (List.mem_of_getElem? (i := 175) (by decide +kernel))
set_option maxRecDepth 20000 in
theorem t_277 : Cond.methodLink RX4 148 yX4_worthOf ∈ lw_tbl := tb_4 _ (List.mem_of_getElem? (i := 178) (by decide +kernel))
set_option maxRecDepth 20000 in
theorem t_278 : Cond.static yX4_worthOf ∈ lw_tbl := tb_4 _ (List.mem_of_getElem? (i := 179) (by decide +kernel))
set_option maxRecDepth 20000 in
theorem t_279 : Cond.code yX4_bestSet cX4_bestSet 8 (some .int) ∈ lw_tbl := tb_4 _ (List.mem_of_getElem? (i := 173) rfl)
set_option maxRecDepth 20000 in
theorem t_280 : Cond.code yX4_latest cX4_latest 8 (some .int) ∈ lw_tbl := tb_4 _ (List.mem_of_getElem? (i := 188) rfl)
set_option maxRecDepth 20000 in
theorem t_281 : Cond.methodLink RX4 151 yX4_latest ∈ lw_tbl := tb_4 _ (List.mem_of_getElem? (i := 185) (by decide +kernel))
set_option maxRecDepth 20000 in
theorem t_282 : Cond.instanceMethod yX4_latest ∈ lw_tbl := tb_4 _ (List.mem_of_getElem? (i := 187) (by decide +kernel))
theorem t_283 : Cond.selects RX4 yX4_latest yX4_latest ∈ lw_tbl := List.mem_append_left _ (List.mem_of_getElem? (i := 32) (by decide +kernel))
set_option maxRecDepth 20000 in
theorem t_284 : Cond.code yX4_reckonLatest cX4_reckonLatest 5 none ∈ lw_tbl := tb_4 _ (List.mem_of_getElem? (i := 184) rfl)
set_option maxRecDepth 20000 in
theorem t_285 : Cond.fieldLink RX4 154 "CardBowl$Rounds" "length" "I" ∈ lw_tbl := tb_2 _ (List.mem_of_getElem? (i := 83) (by decide +kernel))
set_option maxRecDepth 20000 in
theorem t_286 : Cond.fieldLink RX4 11 "CardBowl$Rounds" "order" "[I" ∈ lw_tbl := tb_2 _ (List.mem_of_getElem? (i := 85) (by decide +kernel))
set_option maxRecDepth 20000 in
theorem t_287 : Cond.code yX4_putInOrder cX4_putInOrder 10 none ∈ lw_tbl := tb_4 _ (List.mem_of_getElem? (i := 192) rfl)
set_option maxRecDepth 20000 in
theorem t_288 : Cond.fieldLink RX4 49 "CardBowl$Rounds" "planned" "Z" ∈ lw_tbl := tb_2 _ (List.mem_of_getElem? (i := 77) (by decide +kernel))
set_option maxRecDepth 20000 in
theorem t_289 : Cond.fieldLink RX4 19 "CardBowl$Rounds" "weekday" "I" ∈ lw_tbl := tb_2 _ (List.mem_of_getElem? (i := 88) (by decide +kernel))
set_option maxRecDepth 20000 in
theorem t_290 : Cond.fieldLink RX4 62 "CardBowl$Town" "houses" "I" ∈ lw_tbl := tb_1 _ (List.mem_of_getElem? (i := 41) (by decide +kernel))
set_option maxRecDepth 20000 in
theorem t_291 : Cond.methodLink RX4 77 yX4_lookAtSpots ∈ lw_tbl := tb_4 _ (List.mem_of_getElem? (i := 129) (by decide +kernel))
set_option maxRecDepth 20000 in
theorem t_292 : Cond.instanceMethod yX4_lookAtSpots ∈ lw_tbl := tb_4 _ (List.mem_of_getElem? (i := 131) (by decide +kernel))
theorem t_293 : Cond.selects RX4 yX4_lookAtSpots yX4_lookAtSpots ∈ lw_tbl := List.mem_append_left _ (List.mem_of_getElem? (i := 24) (by decide +kernel))
set_option maxRecDepth 20000 in
theorem t_294 : Cond.methodLink RX4 81 yX4_openSpots ∈ lw_tbl := tb_4 _ (List.mem_of_getElem? (i := 147) (by decide +kernel))
set_option maxRecDepth 20000 in
theorem t_295 : Cond.instanceMethod yX4_openSpots ∈ lw_tbl := tb_4 _ (List.mem_of_getElem? (i := 149) (by decide +kernel))
theorem t_296 : Cond.selects RX4 yX4_openSpots yX4_openSpots ∈ lw_tbl := List.mem_append_left _ (List.mem_of_getElem? (i := 26) (by decide +kernel))
set_option maxRecDepth 20000 in
theorem t_297 : Cond.methodLink RX4 85 yX4_reckonMinutes ∈ lw_tbl := tb_4 _ (List.mem_of_getElem? (i := 154) (by decide +kernel))
set_option maxRecDepth 20000 in
theorem t_298 : Cond.instanceMethod yX4_reckonMinutes ∈ lw_tbl := tb_4 _ (List.mem_of_getElem? (i := 156) (by decide +kernel))
theorem t_299 : Cond.selects RX4 yX4_reckonMinutes yX4_reckonMinutes ∈ lw_tbl := List.mem_append_left _ (List.mem_of_getElem? (i := 27) (by decide +kernel))
set_option maxRecDepth 20000 in
theorem t_300 : Cond.methodLink RX4 89 yX4_bestSet ∈ lw_tbl := tb_4 _ (List.mem_of_getElem? (i := 170) (by decide +kernel))
set_option maxRecDepth 20000 in
theorem t_301 : Cond.instanceMethod yX4_bestSet ∈ lw_tbl := tb_4 _ (List.mem_of_getElem? (i := 172) (by decide +kernel))
theorem t_302 : Cond.selects RX4 yX4_bestSet yX4_bestSet ∈ lw_tbl := List.mem_append_left _ (List.mem_of_getElem? (i := 30) (by decide +kernel))
set_option maxRecDepth 20000 in
theorem t_303 : Cond.methodLink RX4 95 yX4_reckonLatest ∈ lw_tbl := tb_4 _ (List.mem_of_getElem? (i := 181) (by decide +kernel))
set_option maxRecDepth 20000 in
theorem t_304 : Cond.instanceMethod yX4_reckonLatest ∈ lw_tbl := tb_4 _ (List.mem_of_getElem? (i := 183) (by decide +kernel))
theorem t_305 : Cond.selects RX4 yX4_reckonLatest yX4_reckonLatest ∈ lw_tbl := List.mem_append_left _ (List.mem_of_getElem? (i := 31) (by decide +kernel))
set_option maxRecDepth 20000 in
theorem t_306 : Cond.methodLink RX4 98 yX4_putInOrder ∈ lw_tbl := tb_4 _ (List.mem_of_getElem? (i := 189) (by decide +kernel))
set_option maxRecDepth 20000 in
theorem t_307 : Cond.instanceMethod yX4_putInOrder ∈ lw_tbl := tb_4 _ (List.mem_of_getElem? (i := 191) (by decide +kernel))
theorem t_308 : Cond.selects RX4 yX4_putInOrder yX4_putInOrder ∈ lw_tbl := List.mem_append_left _ (List.mem_of_getElem? (i := 33) (by decide +kernel))
set_option maxRecDepth 20000 in
theorem t_309 : Cond.code yX4_plan cX4_plan 5 none ∈ lw_tbl := tb_4 _ (List.mem_of_getElem? (i := 127) rfl)
set_option maxRecDepth 20000 in
theorem t_310 : Cond.fieldLink RX4 157 "CardBowl$Slot" "size" "I" ∈ lw_tbl := tb_2 _ (List.mem_of_getElem? (i := 190) (by decide +kernel))
set_option maxRecDepth 20000 in
theorem t_311 : Cond.initialized RX5 ∈ lw_tbl := tb_1 _ (List.mem_of_getElem? (i := 10) (by decide +kernel))
set_option maxRecDepth 20000 in
theorem t_312 : Cond.methodLink RX4 162 yX5_small ∈ lw_tbl := tb_4 _ (List.mem_of_getElem? (i := 209) (by decide +kernel))
set_option maxRecDepth 20000 in
theorem t_313 : Cond.instanceMethod yX5_small ∈ lw_tbl := tb_4 _ (List.mem_of_getElem? (i := 72) (by decide +kernel))
set_option maxRecDepth 20000 in
theorem t_314 : Cond.selects RX5 yX5_small yX5_small ∈ lw_tbl := tb_4 _ (List.mem_of_getElem? (i := 73) (by decide +kernel))
set_option maxRecDepth 20000 in
theorem t_315 : Cond.methodLink RX4 165 yX7_has ∈ lw_tbl := tb_4 _ (List.mem_of_getElem? (i := 210) (by decide +kernel))
set_option maxRecDepth 20000 in
theorem t_316 : Cond.code yX4_canWalk cX4_canWalk 10 (some .boolean) ∈ lw_tbl := tb_4 _ (List.mem_of_getElem? (i := 208) rfl)
set_option maxRecDepth 20000 in
theorem t_317 : Cond.methodLink RX4 181 yX1_nth ∈ lw_tbl := tb_4 _ (List.mem_of_getElem? (i := 223) (by decide +kernel))
set_option maxRecDepth 20000 in
theorem t_318 : Cond.instanceMethod yX1_nth ∈ lw_tbl := tb_4 _ (List.mem_of_getElem? (i := 93) (by decide +kernel))
set_option maxRecDepth 20000 in
theorem t_319 : Cond.selects RX1 yX1_nth yX1_nth ∈ lw_tbl := tb_4 _ (List.mem_of_getElem? (i := 94) (by decide +kernel))
set_option maxRecDepth 20000 in
theorem t_320 : Cond.fieldLink RX4 184 "CardBowl$Debts" "creditor" "[I" ∈ lw_tbl := tb_1 _ (List.mem_of_getElem? (i := 214) (by decide +kernel))
set_option maxRecDepth 20000 in
theorem t_321 : Cond.fieldLink RX4 25 "CardBowl$Rounds" "deadline" "[I" ∈ lw_tbl := tb_2 _ (List.mem_of_getElem? (i := 91) (by decide +kernel))
set_option maxRecDepth 20000 in
theorem t_322 : Cond.fieldLink RX4 187 "CardBowl$Debts" "due" "[I" ∈ lw_tbl := tb_1 _ (List.mem_of_getElem? (i := 219) (by decide +kernel))
set_option maxRecDepth 20000 in
theorem t_323 : Cond.code yX4_gatherDeadlines cX4_gatherDeadlines 7 none ∈ lw_tbl := tb_4 _ (List.mem_of_getElem? (i := 222) rfl)
set_option maxRecDepth 20000 in
theorem t_324 : Cond.code yX4_inTime cX4_inTime 4 (some .int) ∈ lw_tbl := tb_4 _ (List.mem_of_getElem? (i := 227) rfl)
set_option maxRecDepth 20000 in
theorem t_325 : Cond.code yX4_addDay cX4_addDay 6 none ∈ lw_tbl := tb_4 _ (List.mem_of_getElem? (i := 231) rfl)
set_option maxRecDepth 20000 in
theorem t_326 : Cond.methodLink RX4 169 yX4_gatherDeadlines ∈ lw_tbl := tb_4 _ (List.mem_of_getElem? (i := 219) (by decide +kernel))
set_option maxRecDepth 20000 in
theorem t_327 : Cond.instanceMethod yX4_gatherDeadlines ∈ lw_tbl := tb_4 _ (List.mem_of_getElem? (i := 221) (by decide +kernel))
theorem t_328 : Cond.selects RX4 yX4_gatherDeadlines yX4_gatherDeadlines ∈ lw_tbl := List.mem_append_left _ (List.mem_of_getElem? (i := 34) (by decide +kernel))
set_option maxRecDepth 20000 in
theorem t_329 : Cond.fieldLink RX4 172 "CardBowl$State" "day" "I" ∈ lw_tbl := tb_2 _ (List.mem_of_getElem? (i := 47) (by decide +kernel))
set_option maxRecDepth 20000 in
theorem t_330 : Cond.methodLink RX4 175 yX4_inTime ∈ lw_tbl := tb_4 _ (List.mem_of_getElem? (i := 224) (by decide +kernel))
set_option maxRecDepth 20000 in
theorem t_331 : Cond.instanceMethod yX4_inTime ∈ lw_tbl := tb_4 _ (List.mem_of_getElem? (i := 226) (by decide +kernel))
theorem t_332 : Cond.selects RX4 yX4_inTime yX4_inTime ∈ lw_tbl := List.mem_append_left _ (List.mem_of_getElem? (i := 35) (by decide +kernel))
set_option maxRecDepth 20000 in
theorem t_333 : Cond.methodLink RX4 178 yX4_addDay ∈ lw_tbl := tb_4 _ (List.mem_of_getElem? (i := 228) (by decide +kernel))
set_option maxRecDepth 20000 in
theorem t_334 : Cond.instanceMethod yX4_addDay ∈ lw_tbl := tb_4 _ (List.mem_of_getElem? (i := 230) (by decide +kernel))
theorem t_335 : Cond.selects RX4 yX4_addDay yX4_addDay ∈ lw_tbl := List.mem_append_left _ (List.mem_of_getElem? (i := 36) (by decide +kernel))
set_option maxRecDepth 20000 in
theorem t_336 : Cond.code yX4_fewestDays cX4_fewestDays 5 (some .int) ∈ lw_tbl := tb_4 _ (List.mem_of_getElem? (i := 218) rfl)
set_option maxRecDepth 20000 in
theorem t_337 : Cond.code yX4_canBeSeen cX4_canBeSeen 6 (some .boolean) ∈ lw_tbl := tb_5 _ (List.mem_of_getElem? (i := 3) rfl)
set_option maxRecDepth 20000 in
theorem t_338 : Cond.methodLink RX4 190 yX4_canBeSeen ∈ lw_tbl := tb_5 _ (List.mem_of_getElem? (i := 0) (by decide +kernel))
set_option maxRecDepth 20000 in
theorem t_339 : Cond.instanceMethod yX4_canBeSeen ∈ lw_tbl := tb_5 _ (List.mem_of_getElem? (i := 2) (by decide +kernel))
theorem t_340 : Cond.selects RX4 yX4_canBeSeen yX4_canBeSeen ∈ lw_tbl := List.mem_append_left _ (List.mem_of_getElem? (i := 37) (by decide +kernel))
set_option maxRecDepth 20000 in
theorem t_341 : Cond.code yX4_lostBits cX4_lostBits 6 (some .int) ∈ lw_tbl := tb_4 _ (List.mem_of_getElem? (i := 239) rfl)
set_option maxRecDepth 20000 in
theorem t_342 : Cond.fieldLink RX8 54 "CardBowl$State" "knows" "[I" ∈ lw_tbl := tb_2 _ (List.mem_of_getElem? (i := 43) (by decide +kernel))
set_option maxRecDepth 20000 in
theorem t_343 : Cond.fieldLink RX8 64 "CardBowl$State" "town" "LCardBowl$Town;" ∈ lw_tbl := tb_2 _ (List.mem_of_getElem? (i := 33) (by decide +kernel))
set_option maxRecDepth 20000 in
theorem t_344 : Cond.fieldLink RX8 68 "CardBowl$Town" "houses" "I" ∈ lw_tbl := tb_1 _ (List.mem_of_getElem? (i := 42) (by decide +kernel))
set_option maxRecDepth 20000 in
theorem t_345 : Cond.fieldLink RX8 73 "CardBowl$State" "day" "I" ∈ lw_tbl := tb_2 _ (List.mem_of_getElem? (i := 45) (by decide +kernel))
set_option maxRecDepth 20000 in
theorem t_346 : Cond.methodLink RX8 76 yX7_isThere ∈ lw_tbl := tb_5 _ (List.mem_of_getElem? (i := 16) (by decide +kernel))
set_option maxRecDepth 20000 in
theorem t_347 : Cond.methodLink RX8 80 yJ6_bitCount_0f7a4 ∈ lw_tbl := tb_5 _ (List.mem_of_getElem? (i := 17) (by decide +kernel))
set_option maxRecDepth 20000 in
theorem t_348 : Cond.fieldLink RX8 86 "CardBowl$Town" "introducers" "I" ∈ lw_tbl := tb_1 _ (List.mem_of_getElem? (i := 50) (by decide +kernel))
set_option maxRecDepth 20000 in
theorem t_349 : Cond.code yX8_everyoneToKnow cX8_everyoneToKnow 7 (some .int) ∈ lw_tbl := tb_5 _ (List.mem_of_getElem? (i := 15) rfl)
set_option maxRecDepth 20000 in
theorem t_350 : Cond.fieldLink RX8 89 "CardBowl$Ways" "between" "I" ∈ lw_tbl := tb_2 _ (List.mem_of_getElem? (i := 148) (by decide +kernel))
set_option maxRecDepth 20000 in
theorem t_351 : Cond.fieldLink RX8 22 "CardBowl$Ways" "house" "[I" ∈ lw_tbl := tb_2 _ (List.mem_of_getElem? (i := 149) (by decide +kernel))
set_option maxRecDepth 20000 in
theorem t_352 : Cond.methodLink RX8 44 yX6_knew ∈ lw_tbl := tb_5 _ (List.mem_of_getElem? (i := 12) (by decide +kernel))
set_option maxRecDepth 20000 in
theorem t_353 : Cond.code yX8_linksOf cX8_linksOf 5 (some .int) ∈ lw_tbl := tb_5 _ (List.mem_of_getElem? (i := 25) rfl)
set_option maxRecDepth 20000 in
theorem t_354 : Cond.fieldLink RX8 25 "CardBowl$Ways" "friends" "[I" ∈ lw_tbl := tb_2 _ (List.mem_of_getElem? (i := 150) (by decide +kernel))
set_option maxRecDepth 20000 in
theorem t_355 : Cond.fieldLink RX8 28 "CardBowl$Ways" "links" "[I" ∈ lw_tbl := tb_2 _ (List.mem_of_getElem? (i := 151) (by decide +kernel))
set_option maxRecDepth 20000 in
theorem t_356 : Cond.initialized RX8 ∈ lw_tbl := tb_1 _ (List.mem_of_getElem? (i := 9) (by decide +kernel))
set_option maxRecDepth 20000 in
theorem t_357 : Cond.methodLink RX8 92 yX8_linksOf ∈ lw_tbl := tb_5 _ (List.mem_of_getElem? (i := 22) (by decide +kernel))
set_option maxRecDepth 20000 in
theorem t_358 : Cond.instanceMethod yX8_linksOf ∈ lw_tbl := tb_5 _ (List.mem_of_getElem? (i := 24) (by decide +kernel))
theorem t_359 : Cond.selects RX8 yX8_linksOf yX8_linksOf ∈ lw_tbl := List.mem_append_left _ (List.mem_of_getElem? (i := 39) (by decide +kernel))
set_option maxRecDepth 20000 in
theorem t_360 : Cond.code yX8_gather cX8_gather 5 none ∈ lw_tbl := tb_5 _ (List.mem_of_getElem? (i := 21) rfl)
set_option maxRecDepth 20000 in
theorem t_361 : Cond.fieldLink RX8 41 "CardBowl$Ways" "length" "I" ∈ lw_tbl := tb_2 _ (List.mem_of_getElem? (i := 142) (by decide +kernel))
set_option maxRecDepth 20000 in
theorem t_362 : Cond.fieldLink RX8 11 "CardBowl$Ways" "calls" "[I" ∈ lw_tbl := tb_2 _ (List.mem_of_getElem? (i := 144) (by decide +kernel))
set_option maxRecDepth 20000 in
theorem t_363 : Cond.fieldLink RX8 34 "CardBowl$Ways" "latest" "[I" ∈ lw_tbl := tb_2 _ (List.mem_of_getElem? (i := 153) (by decide +kernel))
set_option maxRecDepth 20000 in
theorem t_364 : Cond.code yX8_tell cX8_tell 6 none ∈ lw_tbl := tb_5 _ (List.mem_of_getElem? (i := 33) rfl)
set_option maxRecDepth 20000 in
theorem t_365 : Cond.fieldLink RX8 31 "CardBowl$Ways" "queue" "[I" ∈ lw_tbl := tb_2 _ (List.mem_of_getElem? (i := 152) (by decide +kernel))
set_option maxRecDepth 20000 in
theorem t_366 : Cond.methodLink RX8 95 yX8_tell ∈ lw_tbl := tb_5 _ (List.mem_of_getElem? (i := 30) (by decide +kernel))
set_option maxRecDepth 20000 in
theorem t_367 : Cond.instanceMethod yX8_tell ∈ lw_tbl := tb_5 _ (List.mem_of_getElem? (i := 32) (by decide +kernel))
theorem t_368 : Cond.selects RX8 yX8_tell yX8_tell ∈ lw_tbl := List.mem_append_left _ (List.mem_of_getElem? (i := 41) (by decide +kernel))
set_option maxRecDepth 20000 in
theorem t_369 : Cond.code yX8_search cX8_search 13 none ∈ lw_tbl := tb_5 _ (List.mem_of_getElem? (i := 29) rfl)
set_option maxRecDepth 20000 in
theorem t_370 : Cond.fieldLink RX8 37 "CardBowl$Ways" "sought" "Z" ∈ lw_tbl := tb_2 _ (List.mem_of_getElem? (i := 140) (by decide +kernel))
set_option maxRecDepth 20000 in
theorem t_371 : Cond.fieldLink RX8 15 "CardBowl$Ways" "caller" "I" ∈ lw_tbl := tb_2 _ (List.mem_of_getElem? (i := 146) (by decide +kernel))
set_option maxRecDepth 20000 in
theorem t_372 : Cond.fieldLink RX8 19 "CardBowl$Ways" "goal" "I" ∈ lw_tbl := tb_2 _ (List.mem_of_getElem? (i := 147) (by decide +kernel))
set_option maxRecDepth 20000 in
theorem t_373 : Cond.methodLink RX8 50 yX8_everyoneToKnow ∈ lw_tbl := tb_5 _ (List.mem_of_getElem? (i := 13) (by decide +kernel))
set_option maxRecDepth 20000 in
theorem t_374 : Cond.static yX8_everyoneToKnow ∈ lw_tbl := tb_5 _ (List.mem_of_getElem? (i := 14) (by decide +kernel))
set_option maxRecDepth 20000 in
theorem t_375 : Cond.methodLink RX8 57 yX8_gather ∈ lw_tbl := tb_5 _ (List.mem_of_getElem? (i := 18) (by decide +kernel))
set_option maxRecDepth 20000 in
theorem t_376 : Cond.instanceMethod yX8_gather ∈ lw_tbl := tb_5 _ (List.mem_of_getElem? (i := 20) (by decide +kernel))
theorem t_377 : Cond.selects RX8 yX8_gather yX8_gather ∈ lw_tbl := List.mem_append_left _ (List.mem_of_getElem? (i := 38) (by decide +kernel))
set_option maxRecDepth 20000 in
theorem t_378 : Cond.methodLink RX8 61 yX8_search ∈ lw_tbl := tb_5 _ (List.mem_of_getElem? (i := 26) (by decide +kernel))
set_option maxRecDepth 20000 in
theorem t_379 : Cond.instanceMethod yX8_search ∈ lw_tbl := tb_5 _ (List.mem_of_getElem? (i := 28) (by decide +kernel))
theorem t_380 : Cond.selects RX8 yX8_search yX8_search ∈ lw_tbl := List.mem_append_left _ (List.mem_of_getElem? (i := 40) (by decide +kernel))
set_option maxRecDepth 20000 in
theorem t_381 : Cond.code yX8_seek cX8_seek 5 none ∈ lw_tbl := tb_5 _ (List.mem_of_getElem? (i := 11) rfl)
set_option maxRecDepth 20000 in
theorem t_382 : Cond.code yX9_isSlot cX9_isSlot 1 (some .boolean) ∈ lw_tbl := tb_4 _ (List.mem_of_getElem? (i := 70) rfl)
set_option maxRecDepth 20000 in
theorem t_383 : Cond.code yX9_isImage cX9_isImage 1 (some .boolean) ∈ lw_tbl := tb_5 _ (List.mem_of_getElem? (i := 100) rfl)
set_option maxRecDepth 20000 in
theorem t_384 : Cond.fieldLink RX9 40 "CardBowl" "rounds" "LCardBowl$Rounds;" ∈ lw_tbl := tb_2 _ (List.mem_of_getElem? (i := 209) (by decide +kernel))
set_option maxRecDepth 20000 in
theorem t_385 : Cond.fieldLink RX9 330 "CardBowl$Rounds" "planned" "Z" ∈ lw_tbl := tb_2 _ (List.mem_of_getElem? (i := 78) (by decide +kernel))
set_option maxRecDepth 20000 in
theorem t_386 : Cond.fieldLink RX9 47 "CardBowl" "ways" "LCardBowl$Ways;" ∈ lw_tbl := tb_2 _ (List.mem_of_getElem? (i := 210) (by decide +kernel))
set_option maxRecDepth 20000 in
theorem t_387 : Cond.fieldLink RX9 333 "CardBowl$Ways" "sought" "Z" ∈ lw_tbl := tb_2 _ (List.mem_of_getElem? (i := 141) (by decide +kernel))
set_option maxRecDepth 20000 in
theorem t_388 : Cond.code yX9_forget cX9_forget 1 none ∈ lw_tbl := tb_3 _ (List.mem_of_getElem? (i := 175) rfl)
set_option maxRecDepth 20000 in
theorem t_389 : Cond.fieldLink RX9 23 "CardBowl" "state" "LCardBowl$State;" ∈ lw_tbl := tb_2 _ (List.mem_of_getElem? (i := 206) (by decide +kernel))
set_option maxRecDepth 20000 in
theorem t_390 : Cond.fieldLink RX9 93 "CardBowl$State" "town" "LCardBowl$Town;" ∈ lw_tbl := tb_2 _ (List.mem_of_getElem? (i := 34) (by decide +kernel))
set_option maxRecDepth 20000 in
theorem t_391 : Cond.methodLink RX9 126 yX7_hasPair ∈ lw_tbl := tb_3 _ (List.mem_of_getElem? (i := 192) (by decide +kernel))
set_option maxRecDepth 20000 in
theorem t_392 : Cond.instanceMethod yX7_hasPair ∈ lw_tbl := tb_3 _ (List.mem_of_getElem? (i := 193) (by decide +kernel))
set_option maxRecDepth 20000 in
theorem t_393 : Cond.selects RX7 yX7_hasPair yX7_hasPair ∈ lw_tbl := tb_3 _ (List.mem_of_getElem? (i := 194) (by decide +kernel))
set_option maxRecDepth 20000 in
theorem t_394 : Cond.code yX9_isDeed cX9_isDeed 4 (some .boolean) ∈ lw_tbl := tb_3 _ (List.mem_of_getElem? (i := 191) rfl)
set_option maxRecDepth 20000 in
theorem t_395 : Cond.methodLink RX9 158 yX7_has ∈ lw_tbl := tb_4 _ (List.mem_of_getElem? (i := 87) (by decide +kernel))
set_option maxRecDepth 20000 in
theorem t_396 : Cond.fieldLink RX9 102 "CardBowl$State" "day" "I" ∈ lw_tbl := tb_2 _ (List.mem_of_getElem? (i := 46) (by decide +kernel))
set_option maxRecDepth 20000 in
theorem t_397 : Cond.code yX9_isOuting cX9_isOuting 3 (some .boolean) ∈ lw_tbl := tb_4 _ (List.mem_of_getElem? (i := 123) rfl)
set_option maxRecDepth 20000 in
theorem t_398 : Cond.fieldLink RX9 33 "CardBowl" "slots" "[LCardBowl$Slot;" ∈ lw_tbl := tb_2 _ (List.mem_of_getElem? (i := 208) (by decide +kernel))
set_option maxRecDepth 20000 in
theorem t_399 : Cond.fieldLink RX9 138 "CardBowl$Slot" "filled" "Z" ∈ lw_tbl := tb_2 _ (List.mem_of_getElem? (i := 185) (by decide +kernel))
set_option maxRecDepth 20000 in
theorem t_400 : Cond.code yX9_filledSlots cX9_filledSlots 3 (some .int) ∈ lw_tbl := tb_5 _ (List.mem_of_getElem? (i := 116) rfl)
set_option maxRecDepth 20000 in
theorem t_401 : Cond.fieldLink RX9 63 "CardBowl" "tapeSize" "I" ∈ lw_tbl := tb_2 _ (List.mem_of_getElem? (i := 204) (by decide +kernel))
set_option maxRecDepth 20000 in
theorem t_402 : Cond.fieldLink RX9 9 "CardBowl" "tape" "[B" ∈ lw_tbl := tb_2 _ (List.mem_of_getElem? (i := 203) (by decide +kernel))
set_option maxRecDepth 20000 in
theorem t_403 : Cond.code yX9_feedNumber cX9_feedNumber 3 none ∈ lw_tbl := tb_3 _ (List.mem_of_getElem? (i := 1) rfl)
set_option maxRecDepth 20000 in
theorem t_404 : Cond.initialized RX9 ∈ lw_tbl := tb_1 _ (List.mem_of_getElem? (i := 1) (by decide +kernel))
set_option maxRecDepth 20000 in
theorem t_405 : Cond.methodLink RX9 67 yX9_feedNumber ∈ lw_tbl := tb_2 _ (List.mem_of_getElem? (i := 238) (by decide +kernel))
set_option maxRecDepth 20000 in
theorem t_406 : Cond.instanceMethod yX9_feedNumber ∈ lw_tbl := tb_3 _ (List.mem_of_getElem? (i := 0) (by decide +kernel))
theorem t_407 : Cond.selects RX9 yX9_feedNumber yX9_feedNumber ∈ lw_tbl := List.mem_append_left _ (List.mem_of_getElem? (i := 0) (by decide +kernel))
set_option maxRecDepth 20000 in
theorem t_408 : Cond.code yX9_feed cX9_feed 6 (some .int) ∈ lw_tbl := tb_2 _ (List.mem_of_getElem? (i := 237) rfl)
set_option maxRecDepth 20000 in
theorem t_409 : Cond.code yX9_end cX9_end 2 (some .int) ∈ lw_tbl := tb_3 _ (List.mem_of_getElem? (i := 5) rfl)
set_option maxRecDepth 20000 in
theorem t_410 : Cond.fieldLink RX9 16 "CardBowl" "reader" "LCardBowl$Reader;" ∈ lw_tbl := tb_2 _ (List.mem_of_getElem? (i := 205) (by decide +kernel))
set_option maxRecDepth 20000 in
theorem t_411 : Cond.fieldLink RX9 99 "CardBowl$Reader" "place" "I" ∈ lw_tbl := tb_1 _ (List.mem_of_getElem? (i := 165) (by decide +kernel))
set_option maxRecDepth 20000 in
theorem t_412 : Cond.fieldLink RX9 75 "CardBowl$Reader" "fault" "I" ∈ lw_tbl := tb_1 _ (List.mem_of_getElem? (i := 163) (by decide +kernel))
set_option maxRecDepth 20000 in
theorem t_413 : Cond.code yX9_fault cX9_fault 2 (some .int) ∈ lw_tbl := tb_3 _ (List.mem_of_getElem? (i := 179) rfl)
set_option maxRecDepth 20000 in
theorem t_414 : Cond.methodLink RX9 90 yX9_forget ∈ lw_tbl := tb_3 _ (List.mem_of_getElem? (i := 172) (by decide +kernel))
set_option maxRecDepth 20000 in
theorem t_415 : Cond.instanceMethod yX9_forget ∈ lw_tbl := tb_3 _ (List.mem_of_getElem? (i := 174) (by decide +kernel))
theorem t_416 : Cond.selects RX9 yX9_forget yX9_forget ∈ lw_tbl := List.mem_append_left _ (List.mem_of_getElem? (i := 15) (by decide +kernel))
set_option maxRecDepth 20000 in
theorem t_417 : Cond.code yX9_days cX9_days 2 (some .int) ∈ lw_tbl := tb_3 _ (List.mem_of_getElem? (i := 183) rfl)
set_option maxRecDepth 20000 in
theorem t_418 : Cond.methodLink RX9 105 yX9_isDeed ∈ lw_tbl := tb_3 _ (List.mem_of_getElem? (i := 188) (by decide +kernel))
set_option maxRecDepth 20000 in
theorem t_419 : Cond.instanceMethod yX9_isDeed ∈ lw_tbl := tb_3 _ (List.mem_of_getElem? (i := 190) (by decide +kernel))
theorem t_420 : Cond.selects RX9 yX9_isDeed yX9_isDeed ∈ lw_tbl := List.mem_append_left _ (List.mem_of_getElem? (i := 16) (by decide +kernel))
set_option maxRecDepth 20000 in
theorem t_421 : Cond.methodLink RX9 109 yX6_barrier ∈ lw_tbl := tb_3 _ (List.mem_of_getElem? (i := 200) (by decide +kernel))
set_option maxRecDepth 20000 in
theorem t_422 : Cond.instanceMethod yX6_barrier ∈ lw_tbl := tb_3 _ (List.mem_of_getElem? (i := 201) (by decide +kernel))
set_option maxRecDepth 20000 in
theorem t_423 : Cond.selects RX6 yX6_barrier yX6_barrier ∈ lw_tbl := tb_3 _ (List.mem_of_getElem? (i := 202) (by decide +kernel))
set_option maxRecDepth 20000 in
theorem t_424 : Cond.code yX9_bars cX9_bars 4 (some .int) ∈ lw_tbl := tb_3 _ (List.mem_of_getElem? (i := 187) rfl)
set_option maxRecDepth 20000 in
theorem t_425 : Cond.fieldLink RX9 113 "CardBowl$State" "deeds" "LCardBowl$Deeds;" ∈ lw_tbl := tb_2 _ (List.mem_of_getElem? (i := 41) (by decide +kernel))
set_option maxRecDepth 20000 in
theorem t_426 : Cond.methodLink RX9 117 yX2_isFull ∈ lw_tbl := tb_3 _ (List.mem_of_getElem? (i := 234) (by decide +kernel))
set_option maxRecDepth 20000 in
theorem t_427 : Cond.instanceMethod yX2_isFull ∈ lw_tbl := tb_3 _ (List.mem_of_getElem? (i := 235) (by decide +kernel))
set_option maxRecDepth 20000 in
theorem t_428 : Cond.selects RX2 yX2_isFull yX2_isFull ∈ lw_tbl := tb_3 _ (List.mem_of_getElem? (i := 236) (by decide +kernel))
set_option maxRecDepth 20000 in
theorem t_429 : Cond.methodLink RX9 123 yX6_act ∈ lw_tbl := tb_3 _ (List.mem_of_getElem? (i := 238) (by decide +kernel))
set_option maxRecDepth 20000 in
theorem t_430 : Cond.instanceMethod yX6_act ∈ lw_tbl := tb_3 _ (List.mem_of_getElem? (i := 239) (by decide +kernel))
set_option maxRecDepth 20000 in
theorem t_431 : Cond.selects RX6 yX6_act yX6_act ∈ lw_tbl := tb_4 _ (List.mem_of_getElem? (i := 0) (by decide +kernel))
set_option maxRecDepth 20000 in
theorem t_432 : Cond.code yX9_does cX9_does 4 (some .int) ∈ lw_tbl := tb_3 _ (List.mem_of_getElem? (i := 233) rfl)
set_option maxRecDepth 20000 in
theorem t_433 : Cond.methodLink RX9 130 yX6_chance ∈ lw_tbl := tb_4 _ (List.mem_of_getElem? (i := 60) (by decide +kernel))
set_option maxRecDepth 20000 in
theorem t_434 : Cond.instanceMethod yX6_chance ∈ lw_tbl := tb_4 _ (List.mem_of_getElem? (i := 61) (by decide +kernel))
set_option maxRecDepth 20000 in
theorem t_435 : Cond.selects RX6 yX6_chance yX6_chance ∈ lw_tbl := tb_4 _ (List.mem_of_getElem? (i := 62) (by decide +kernel))
set_option maxRecDepth 20000 in
theorem t_436 : Cond.code yX9_meet cX9_meet 3 (some .int) ∈ lw_tbl := tb_4 _ (List.mem_of_getElem? (i := 59) rfl)
set_option maxRecDepth 20000 in
theorem t_437 : Cond.methodLink RX9 134 yX9_isSlot ∈ lw_tbl := tb_4 _ (List.mem_of_getElem? (i := 68) (by decide +kernel))
set_option maxRecDepth 20000 in
theorem t_438 : Cond.static yX9_isSlot ∈ lw_tbl := tb_4 _ (List.mem_of_getElem? (i := 69) (by decide +kernel))
set_option maxRecDepth 20000 in
theorem t_439 : Cond.fieldLink RX9 142 "CardBowl$Slot" "size" "I" ∈ lw_tbl := tb_2 _ (List.mem_of_getElem? (i := 189) (by decide +kernel))
set_option maxRecDepth 20000 in
theorem t_440 : Cond.methodLink RX9 145 yX5_small ∈ lw_tbl := tb_4 _ (List.mem_of_getElem? (i := 71) (by decide +kernel))
set_option maxRecDepth 20000 in
theorem t_441 : Cond.methodLink RX9 152 yX9_does ∈ lw_tbl := tb_4 _ (List.mem_of_getElem? (i := 77) (by decide +kernel))
set_option maxRecDepth 20000 in
theorem t_442 : Cond.instanceMethod yX9_does ∈ lw_tbl := tb_3 _ (List.mem_of_getElem? (i := 231) (by decide +kernel))
set_option maxRecDepth 20000 in
theorem t_443 : Cond.selects RX9 yX9_does yX9_does ∈ lw_tbl := tb_3 _ (List.mem_of_getElem? (i := 232) (by decide +kernel))
set_option maxRecDepth 20000 in
theorem t_444 : Cond.methodLink RX9 149 yX9_meet ∈ lw_tbl := tb_4 _ (List.mem_of_getElem? (i := 76) (by decide +kernel))
set_option maxRecDepth 20000 in
theorem t_445 : Cond.instanceMethod yX9_meet ∈ lw_tbl := tb_4 _ (List.mem_of_getElem? (i := 57) (by decide +kernel))
set_option maxRecDepth 20000 in
theorem t_446 : Cond.selects RX9 yX9_meet yX9_meet ∈ lw_tbl := tb_4 _ (List.mem_of_getElem? (i := 58) (by decide +kernel))
set_option maxRecDepth 20000 in
theorem t_447 : Cond.code yX9_done cX9_done 9 (some .int) ∈ lw_tbl := tb_4 _ (List.mem_of_getElem? (i := 67) rfl)
set_option maxRecDepth 20000 in
theorem t_448 : Cond.methodLink RX9 155 yX6_knew ∈ lw_tbl := tb_4 _ (List.mem_of_getElem? (i := 82) (by decide +kernel))
set_option maxRecDepth 20000 in
theorem t_449 : Cond.code yX9_known cX9_known 3 (some .int) ∈ lw_tbl := tb_4 _ (List.mem_of_getElem? (i := 81) rfl)
set_option maxRecDepth 20000 in
theorem t_450 : Cond.fieldLink RX9 161 "CardBowl$State" "debts" "LCardBowl$Debts;" ∈ lw_tbl := tb_2 _ (List.mem_of_getElem? (i := 39) (by decide +kernel))
set_option maxRecDepth 20000 in
theorem t_451 : Cond.fieldLink RX9 164 "CardBowl$Debts" "open" "[I" ∈ lw_tbl := tb_1 _ (List.mem_of_getElem? (i := 224) (by decide +kernel))
set_option maxRecDepth 20000 in
theorem t_452 : Cond.code yX9_debts cX9_debts 2 (some .int) ∈ lw_tbl := tb_4 _ (List.mem_of_getElem? (i := 86) rfl)
set_option maxRecDepth 20000 in
theorem t_453 : Cond.methodLink RX9 167 yX1_nth ∈ lw_tbl := tb_4 _ (List.mem_of_getElem? (i := 92) (by decide +kernel))
set_option maxRecDepth 20000 in
theorem t_454 : Cond.fieldLink RX9 170 "CardBowl$Debts" "creditor" "[I" ∈ lw_tbl := tb_1 _ (List.mem_of_getElem? (i := 213) (by decide +kernel))
set_option maxRecDepth 20000 in
theorem t_455 : Cond.fieldLink RX9 173 "CardBowl$Debts" "kind" "[I" ∈ lw_tbl := tb_1 _ (List.mem_of_getElem? (i := 216) (by decide +kernel))
set_option maxRecDepth 20000 in
theorem t_456 : Cond.fieldLink RX9 176 "CardBowl$Debts" "due" "[I" ∈ lw_tbl := tb_1 _ (List.mem_of_getElem? (i := 218) (by decide +kernel))
set_option maxRecDepth 20000 in
theorem t_457 : Cond.fieldLink RX9 179 "CardBowl$Debts" "came" "[I" ∈ lw_tbl := tb_1 _ (List.mem_of_getElem? (i := 221) (by decide +kernel))
set_option maxRecDepth 20000 in
theorem t_458 : Cond.code yX9_debt cX9_debt 5 (some .int) ∈ lw_tbl := tb_4 _ (List.mem_of_getElem? (i := 91) rfl)
set_option maxRecDepth 20000 in
theorem t_459 : Cond.methodLink RX9 182 yX1_overdueTo ∈ lw_tbl := tb_4 _ (List.mem_of_getElem? (i := 100) (by decide +kernel))
set_option maxRecDepth 20000 in
theorem t_460 : Cond.instanceMethod yX1_overdueTo ∈ lw_tbl := tb_4 _ (List.mem_of_getElem? (i := 101) (by decide +kernel))
set_option maxRecDepth 20000 in
theorem t_461 : Cond.selects RX1 yX1_overdueTo yX1_overdueTo ∈ lw_tbl := tb_4 _ (List.mem_of_getElem? (i := 102) (by decide +kernel))
set_option maxRecDepth 20000 in
theorem t_462 : Cond.code yX9_slights cX9_slights 2 (some .int) ∈ lw_tbl := tb_4 _ (List.mem_of_getElem? (i := 99) rfl)
set_option maxRecDepth 20000 in
theorem t_463 : Cond.fieldLink RX9 94 "CardBowl$Town" "houses" "I" ∈ lw_tbl := tb_1 _ (List.mem_of_getElem? (i := 43) (by decide +kernel))
set_option maxRecDepth 20000 in
theorem t_464 : Cond.fieldLink RX9 185 "CardBowl$Town" "rank" "[I" ∈ lw_tbl := tb_1 _ (List.mem_of_getElem? (i := 62) (by decide +kernel))
set_option maxRecDepth 20000 in
theorem t_465 : Cond.code yX9_first cX9_first 6 (some .int) ∈ lw_tbl := tb_4 _ (List.mem_of_getElem? (i := 107) rfl)
set_option maxRecDepth 20000 in
theorem t_466 : Cond.methodLink RX9 188 yX6_wouldMake ∈ lw_tbl := tb_4 _ (List.mem_of_getElem? (i := 112) (by decide +kernel))
set_option maxRecDepth 20000 in
theorem t_467 : Cond.instanceMethod yX6_wouldMake ∈ lw_tbl := tb_4 _ (List.mem_of_getElem? (i := 113) (by decide +kernel))
set_option maxRecDepth 20000 in
theorem t_468 : Cond.selects RX6 yX6_wouldMake yX6_wouldMake ∈ lw_tbl := tb_4 _ (List.mem_of_getElem? (i := 114) (by decide +kernel))
set_option maxRecDepth 20000 in
theorem t_469 : Cond.code yX9_owes cX9_owes 4 (some .int) ∈ lw_tbl := tb_4 _ (List.mem_of_getElem? (i := 111) rfl)
set_option maxRecDepth 20000 in
theorem t_470 : Cond.methodLink RX9 191 yX9_isOuting ∈ lw_tbl := tb_4 _ (List.mem_of_getElem? (i := 120) (by decide +kernel))
set_option maxRecDepth 20000 in
theorem t_471 : Cond.instanceMethod yX9_isOuting ∈ lw_tbl := tb_4 _ (List.mem_of_getElem? (i := 122) (by decide +kernel))
theorem t_472 : Cond.selects RX9 yX9_isOuting yX9_isOuting ∈ lw_tbl := List.mem_append_left _ (List.mem_of_getElem? (i := 23) (by decide +kernel))
set_option maxRecDepth 20000 in
theorem t_473 : Cond.methodLink RX9 194 yX4_plan ∈ lw_tbl := tb_4 _ (List.mem_of_getElem? (i := 124) (by decide +kernel))
set_option maxRecDepth 20000 in
theorem t_474 : Cond.instanceMethod yX4_plan ∈ lw_tbl := tb_4 _ (List.mem_of_getElem? (i := 125) (by decide +kernel))
set_option maxRecDepth 20000 in
theorem t_475 : Cond.selects RX4 yX4_plan yX4_plan ∈ lw_tbl := tb_4 _ (List.mem_of_getElem? (i := 126) (by decide +kernel))
set_option maxRecDepth 20000 in
theorem t_476 : Cond.fieldLink RX9 198 "CardBowl$Rounds" "bestWorth" "I" ∈ lw_tbl := tb_2 _ (List.mem_of_getElem? (i := 80) (by decide +kernel))
set_option maxRecDepth 20000 in
theorem t_477 : Cond.code yX9_worth cX9_worth 3 (some .int) ∈ lw_tbl := tb_4 _ (List.mem_of_getElem? (i := 119) rfl)
set_option maxRecDepth 20000 in
theorem t_478 : Cond.fieldLink RX9 201 "CardBowl$Rounds" "length" "I" ∈ lw_tbl := tb_2 _ (List.mem_of_getElem? (i := 84) (by decide +kernel))
set_option maxRecDepth 20000 in
theorem t_479 : Cond.fieldLink RX9 204 "CardBowl$Rounds" "order" "[I" ∈ lw_tbl := tb_2 _ (List.mem_of_getElem? (i := 86) (by decide +kernel))
set_option maxRecDepth 20000 in
theorem t_480 : Cond.code yX9_round cX9_round 4 (some .int) ∈ lw_tbl := tb_4 _ (List.mem_of_getElem? (i := 196) rfl)
set_option maxRecDepth 20000 in
theorem t_481 : Cond.fieldLink RX9 207 "CardBowl$Rounds" "bestOver" "I" ∈ lw_tbl := tb_2 _ (List.mem_of_getElem? (i := 82) (by decide +kernel))
set_option maxRecDepth 20000 in
theorem t_482 : Cond.code yX9_over cX9_over 3 (some .int) ∈ lw_tbl := tb_4 _ (List.mem_of_getElem? (i := 200) rfl)
set_option maxRecDepth 20000 in
theorem t_483 : Cond.methodLink RX9 210 yX4_canWalk ∈ lw_tbl := tb_4 _ (List.mem_of_getElem? (i := 205) (by decide +kernel))
set_option maxRecDepth 20000 in
theorem t_484 : Cond.instanceMethod yX4_canWalk ∈ lw_tbl := tb_4 _ (List.mem_of_getElem? (i := 206) (by decide +kernel))
set_option maxRecDepth 20000 in
theorem t_485 : Cond.selects RX4 yX4_canWalk yX4_canWalk ∈ lw_tbl := tb_4 _ (List.mem_of_getElem? (i := 207) (by decide +kernel))
set_option maxRecDepth 20000 in
theorem t_486 : Cond.code yX9_may cX9_may 5 (some .int) ∈ lw_tbl := tb_4 _ (List.mem_of_getElem? (i := 204) rfl)
set_option maxRecDepth 20000 in
theorem t_487 : Cond.methodLink RX9 214 yX4_fewestDays ∈ lw_tbl := tb_4 _ (List.mem_of_getElem? (i := 215) (by decide +kernel))
set_option maxRecDepth 20000 in
theorem t_488 : Cond.instanceMethod yX4_fewestDays ∈ lw_tbl := tb_4 _ (List.mem_of_getElem? (i := 216) (by decide +kernel))
set_option maxRecDepth 20000 in
theorem t_489 : Cond.selects RX4 yX4_fewestDays yX4_fewestDays ∈ lw_tbl := tb_4 _ (List.mem_of_getElem? (i := 217) (by decide +kernel))
set_option maxRecDepth 20000 in
theorem t_490 : Cond.code yX9_fewest cX9_fewest 2 (some .int) ∈ lw_tbl := tb_4 _ (List.mem_of_getElem? (i := 214) rfl)
set_option maxRecDepth 20000 in
theorem t_491 : Cond.methodLink RX9 218 yX4_lostBits ∈ lw_tbl := tb_4 _ (List.mem_of_getElem? (i := 236) (by decide +kernel))
set_option maxRecDepth 20000 in
theorem t_492 : Cond.instanceMethod yX4_lostBits ∈ lw_tbl := tb_4 _ (List.mem_of_getElem? (i := 237) (by decide +kernel))
set_option maxRecDepth 20000 in
theorem t_493 : Cond.selects RX4 yX4_lostBits yX4_lostBits ∈ lw_tbl := tb_4 _ (List.mem_of_getElem? (i := 238) (by decide +kernel))
set_option maxRecDepth 20000 in
theorem t_494 : Cond.code yX9_lost cX9_lost 2 (some .int) ∈ lw_tbl := tb_4 _ (List.mem_of_getElem? (i := 235) rfl)
set_option maxRecDepth 20000 in
theorem t_495 : Cond.methodLink RX9 221 yX8_seek ∈ lw_tbl := tb_5 _ (List.mem_of_getElem? (i := 8) (by decide +kernel))
set_option maxRecDepth 20000 in
theorem t_496 : Cond.instanceMethod yX8_seek ∈ lw_tbl := tb_5 _ (List.mem_of_getElem? (i := 9) (by decide +kernel))
set_option maxRecDepth 20000 in
theorem t_497 : Cond.selects RX8 yX8_seek yX8_seek ∈ lw_tbl := tb_5 _ (List.mem_of_getElem? (i := 10) (by decide +kernel))
set_option maxRecDepth 20000 in
theorem t_498 : Cond.fieldLink RX9 224 "CardBowl$Ways" "length" "I" ∈ lw_tbl := tb_2 _ (List.mem_of_getElem? (i := 143) (by decide +kernel))
set_option maxRecDepth 20000 in
theorem t_499 : Cond.code yX9_soon cX9_soon 3 (some .int) ∈ lw_tbl := tb_5 _ (List.mem_of_getElem? (i := 7) rfl)
set_option maxRecDepth 20000 in
theorem t_500 : Cond.fieldLink RX9 225 "CardBowl$Ways" "calls" "[I" ∈ lw_tbl := tb_2 _ (List.mem_of_getElem? (i := 145) (by decide +kernel))
set_option maxRecDepth 20000 in
theorem t_501 : Cond.code yX9_path cX9_path 4 (some .int) ∈ lw_tbl := tb_5 _ (List.mem_of_getElem? (i := 37) rfl)
set_option maxRecDepth 20000 in
theorem t_502 : Cond.methodLink RX9 228 yX6_hanging ∈ lw_tbl := tb_5 _ (List.mem_of_getElem? (i := 42) (by decide +kernel))
set_option maxRecDepth 20000 in
theorem t_503 : Cond.code yX9_reach cX9_reach 2 (some .int) ∈ lw_tbl := tb_5 _ (List.mem_of_getElem? (i := 41) rfl)
set_option maxRecDepth 20000 in
theorem t_504 : Cond.methodLink RX9 231 yX6_canDrop ∈ lw_tbl := tb_5 _ (List.mem_of_getElem? (i := 50) (by decide +kernel))
set_option maxRecDepth 20000 in
theorem t_505 : Cond.instanceMethod yX6_canDrop ∈ lw_tbl := tb_5 _ (List.mem_of_getElem? (i := 51) (by decide +kernel))
set_option maxRecDepth 20000 in
theorem t_506 : Cond.selects RX6 yX6_canDrop yX6_canDrop ∈ lw_tbl := tb_5 _ (List.mem_of_getElem? (i := 52) (by decide +kernel))
set_option maxRecDepth 20000 in
theorem t_507 : Cond.code yX9_drop cX9_drop 5 (some .int) ∈ lw_tbl := tb_5 _ (List.mem_of_getElem? (i := 49) rfl)
set_option maxRecDepth 20000 in
theorem t_508 : Cond.methodLink RX9 234 yX6_holdsTogether ∈ lw_tbl := tb_5 _ (List.mem_of_getElem? (i := 63) (by decide +kernel))
set_option maxRecDepth 20000 in
theorem t_509 : Cond.code yX9_tie cX9_tie 3 (some .int) ∈ lw_tbl := tb_5 _ (List.mem_of_getElem? (i := 62) rfl)
set_option maxRecDepth 20000 in
theorem t_510 : Cond.methodLink RX9 237 yX6_followCalls ∈ lw_tbl := tb_5 _ (List.mem_of_getElem? (i := 68) (by decide +kernel))
set_option maxRecDepth 20000 in
theorem t_511 : Cond.instanceMethod yX6_followCalls ∈ lw_tbl := tb_5 _ (List.mem_of_getElem? (i := 69) (by decide +kernel))
set_option maxRecDepth 20000 in
theorem t_512 : Cond.selects RX6 yX6_followCalls yX6_followCalls ∈ lw_tbl := tb_5 _ (List.mem_of_getElem? (i := 70) (by decide +kernel))
set_option maxRecDepth 20000 in
theorem t_513 : Cond.methodLink RX9 240 yX6_ringBits ∈ lw_tbl := tb_5 _ (List.mem_of_getElem? (i := 72) (by decide +kernel))
set_option maxRecDepth 20000 in
theorem t_514 : Cond.instanceMethod yX6_ringBits ∈ lw_tbl := tb_5 _ (List.mem_of_getElem? (i := 73) (by decide +kernel))
set_option maxRecDepth 20000 in
theorem t_515 : Cond.selects RX6 yX6_ringBits yX6_ringBits ∈ lw_tbl := tb_5 _ (List.mem_of_getElem? (i := 74) (by decide +kernel))
set_option maxRecDepth 20000 in
theorem t_516 : Cond.methodLink RX9 243 yJ6_numberOfTrailingZeros_0f7a4 ∈ lw_tbl := tb_5 _ (List.mem_of_getElem? (i := 76) (by decide +kernel))
set_option maxRecDepth 20000 in
theorem t_517 : Cond.code yX9_rings cX9_rings 4 (some .int) ∈ lw_tbl := tb_5 _ (List.mem_of_getElem? (i := 67) rfl)
set_option maxRecDepth 20000 in
theorem t_518 : Cond.code yX9_ring cX9_ring 2 (some .int) ∈ lw_tbl := tb_5 _ (List.mem_of_getElem? (i := 80) rfl)
set_option maxRecDepth 20000 in
theorem t_519 : Cond.constant RX9 248 (-2000000000) ∈ lw_tbl := tb_5 _ (List.mem_of_getElem? (i := 85) (by decide +kernel))
set_option maxRecDepth 20000 in
theorem t_520 : Cond.fieldLink RX9 249 "CardBowl$Town" "x" "[I" ∈ lw_tbl := tb_1 _ (List.mem_of_getElem? (i := 55) (by decide +kernel))
set_option maxRecDepth 20000 in
theorem t_521 : Cond.fieldLink RX9 252 "CardBowl$Town" "y" "[I" ∈ lw_tbl := tb_1 _ (List.mem_of_getElem? (i := 58) (by decide +kernel))
set_option maxRecDepth 20000 in
theorem t_522 : Cond.fieldLink RX9 255 "CardBowl$Town" "weekday" "[I" ∈ lw_tbl := tb_1 _ (List.mem_of_getElem? (i := 67) (by decide +kernel))
set_option maxRecDepth 20000 in
theorem t_523 : Cond.fieldLink RX9 258 "CardBowl$Town" "from" "[I" ∈ lw_tbl := tb_1 _ (List.mem_of_getElem? (i := 71) (by decide +kernel))
set_option maxRecDepth 20000 in
theorem t_524 : Cond.fieldLink RX9 261 "CardBowl$Town" "to" "[I" ∈ lw_tbl := tb_1 _ (List.mem_of_getElem? (i := 75) (by decide +kernel))
set_option maxRecDepth 20000 in
theorem t_525 : Cond.fieldLink RX9 264 "CardBowl$Town" "came" "[I" ∈ lw_tbl := tb_1 _ (List.mem_of_getElem? (i := 78) (by decide +kernel))
set_option maxRecDepth 20000 in
theorem t_526 : Cond.methodLink RX9 265 yX2_callsBy ∈ lw_tbl := tb_5 _ (List.mem_of_getElem? (i := 86) (by decide +kernel))
set_option maxRecDepth 20000 in
theorem t_527 : Cond.instanceMethod yX2_callsBy ∈ lw_tbl := tb_5 _ (List.mem_of_getElem? (i := 87) (by decide +kernel))
set_option maxRecDepth 20000 in
theorem t_528 : Cond.selects RX2 yX2_callsBy yX2_callsBy ∈ lw_tbl := tb_5 _ (List.mem_of_getElem? (i := 88) (by decide +kernel))
set_option maxRecDepth 20000 in
theorem t_529 : Cond.methodLink RX9 268 yX2_callsTo ∈ lw_tbl := tb_5 _ (List.mem_of_getElem? (i := 90) (by decide +kernel))
set_option maxRecDepth 20000 in
theorem t_530 : Cond.instanceMethod yX2_callsTo ∈ lw_tbl := tb_5 _ (List.mem_of_getElem? (i := 91) (by decide +kernel))
set_option maxRecDepth 20000 in
theorem t_531 : Cond.selects RX2 yX2_callsTo yX2_callsTo ∈ lw_tbl := tb_5 _ (List.mem_of_getElem? (i := 92) (by decide +kernel))
set_option maxRecDepth 20000 in
theorem t_532 : Cond.code yX9_house cX9_house 3 (some .int) ∈ lw_tbl := tb_5 _ (List.mem_of_getElem? (i := 84) rfl)
set_option maxRecDepth 20000 in
theorem t_533 : Cond.fieldLink RX9 274 "CardBowl$State" "code" "LCardBowl$Code;" ∈ lw_tbl := tb_2 _ (List.mem_of_getElem? (i := 36) (by decide +kernel))
set_option maxRecDepth 20000 in
theorem t_534 : Cond.fieldLink RX9 280 "CardBowl$Code" "lines" "I" ∈ lw_tbl := tb_1 _ (List.mem_of_getElem? (i := 119) (by decide +kernel))
set_option maxRecDepth 20000 in
theorem t_535 : Cond.fieldLink RX9 279 "CardBowl$Debts" "size" "I" ∈ lw_tbl := tb_1 _ (List.mem_of_getElem? (i := 210) (by decide +kernel))
set_option maxRecDepth 20000 in
theorem t_536 : Cond.methodLink RX9 285 yX1_overdue ∈ lw_tbl := tb_5 _ (List.mem_of_getElem? (i := 109) (by decide +kernel))
set_option maxRecDepth 20000 in
theorem t_537 : Cond.instanceMethod yX1_overdue ∈ lw_tbl := tb_5 _ (List.mem_of_getElem? (i := 110) (by decide +kernel))
set_option maxRecDepth 20000 in
theorem t_538 : Cond.selects RX1 yX1_overdue yX1_overdue ∈ lw_tbl := tb_5 _ (List.mem_of_getElem? (i := 111) (by decide +kernel))
set_option maxRecDepth 20000 in
theorem t_539 : Cond.fieldLink RX9 288 "CardBowl$Deeds" "size" "I" ∈ lw_tbl := tb_2 _ (List.mem_of_getElem? (i := 11) (by decide +kernel))
set_option maxRecDepth 20000 in
theorem t_540 : Cond.fieldLink RX9 289 "CardBowl$State" "paid" "I" ∈ lw_tbl := tb_2 _ (List.mem_of_getElem? (i := 49) (by decide +kernel))
set_option maxRecDepth 20000 in
theorem t_541 : Cond.fieldLink RX9 292 "CardBowl$Town" "introducers" "I" ∈ lw_tbl := tb_1 _ (List.mem_of_getElem? (i := 52) (by decide +kernel))
set_option maxRecDepth 20000 in
theorem t_542 : Cond.fieldLink RX9 295 "CardBowl$Town" "fresh" "I" ∈ lw_tbl := tb_1 _ (List.mem_of_getElem? (i := 47) (by decide +kernel))
set_option maxRecDepth 20000 in
theorem t_543 : Cond.methodLink RX9 298 yX9_filledSlots ∈ lw_tbl := tb_5 _ (List.mem_of_getElem? (i := 113) (by decide +kernel))
set_option maxRecDepth 20000 in
theorem t_544 : Cond.instanceMethod yX9_filledSlots ∈ lw_tbl := tb_5 _ (List.mem_of_getElem? (i := 115) (by decide +kernel))
theorem t_545 : Cond.selects RX9 yX9_filledSlots yX9_filledSlots ∈ lw_tbl := List.mem_append_left _ (List.mem_of_getElem? (i := 42) (by decide +kernel))
set_option maxRecDepth 20000 in
theorem t_546 : Cond.code yX9_count cX9_count 2 (some .int) ∈ lw_tbl := tb_5 _ (List.mem_of_getElem? (i := 108) rfl)
set_option maxRecDepth 20000 in
theorem t_547 : Cond.methodLink RX9 306 yX5_lay ∈ lw_tbl := tb_5 _ (List.mem_of_getElem? (i := 143) (by decide +kernel))
set_option maxRecDepth 20000 in
theorem t_548 : Cond.instanceMethod yX5_lay ∈ lw_tbl := tb_5 _ (List.mem_of_getElem? (i := 144) (by decide +kernel))
set_option maxRecDepth 20000 in
theorem t_549 : Cond.selects RX5 yX5_lay yX5_lay ∈ lw_tbl := tb_5 _ (List.mem_of_getElem? (i := 145) (by decide +kernel))
set_option maxRecDepth 20000 in
theorem t_550 : Cond.code yX9_row cX9_row 4 (some .int) ∈ lw_tbl := tb_5 _ (List.mem_of_getElem? (i := 142) rfl)
set_option maxRecDepth 20000 in
theorem t_551 : Cond.fieldLink RX9 310 "CardBowl$Slot" "numbers" "[J" ∈ lw_tbl := tb_2 _ (List.mem_of_getElem? (i := 192) (by decide +kernel))
set_option maxRecDepth 20000 in
theorem t_552 : Cond.methodLink RX9 314 yX5_cut ∈ lw_tbl := tb_5 _ (List.mem_of_getElem? (i := 154) (by decide +kernel))
set_option maxRecDepth 20000 in
theorem t_553 : Cond.instanceMethod yX5_cut ∈ lw_tbl := tb_5 _ (List.mem_of_getElem? (i := 155) (by decide +kernel))
set_option maxRecDepth 20000 in
theorem t_554 : Cond.selects RX5 yX5_cut yX5_cut ∈ lw_tbl := tb_5 _ (List.mem_of_getElem? (i := 156) (by decide +kernel))
set_option maxRecDepth 20000 in
theorem t_555 : Cond.code yX9_write cX9_write 6 (some .int) ∈ lw_tbl := tb_5 _ (List.mem_of_getElem? (i := 153) rfl)
set_option maxRecDepth 20000 in
theorem t_556 : Cond.fieldLink RX9 318 "CardBowl$Slot" "width" "I" ∈ lw_tbl := tb_2 _ (List.mem_of_getElem? (i := 187) (by decide +kernel))
set_option maxRecDepth 20000 in
theorem t_557 : Cond.methodLink RX9 321 yX5_hasRun ∈ lw_tbl := tb_5 _ (List.mem_of_getElem? (i := 162) (by decide +kernel))
set_option maxRecDepth 20000 in
theorem t_558 : Cond.instanceMethod yX5_hasRun ∈ lw_tbl := tb_5 _ (List.mem_of_getElem? (i := 163) (by decide +kernel))
set_option maxRecDepth 20000 in
theorem t_559 : Cond.selects RX5 yX5_hasRun yX5_hasRun ∈ lw_tbl := tb_5 _ (List.mem_of_getElem? (i := 164) (by decide +kernel))
set_option maxRecDepth 20000 in
theorem t_560 : Cond.methodLink RX9 324 arraycopyName ∈ lw_tbl := tb_5 _ (List.mem_of_getElem? (i := 166) (by decide +kernel))
set_option maxRecDepth 20000 in
theorem t_561 : Cond.code yX9_paste cX9_paste 8 (some .int) ∈ lw_tbl := tb_5 _ (List.mem_of_getElem? (i := 161) rfl)
set_option maxRecDepth 20000 in
theorem t_562 : Cond.fieldLink RJ0 38 "java/lang/String" "COMPACT_STRINGS" "Z" ∈ lw_tbl := tb_3 _ (List.mem_of_getElem? (i := 54) (by decide +kernel))
set_option maxRecDepth 20000 in
theorem t_563 : Cond.fieldLink RJ0 15 "java/lang/String" "coder" "B" ∈ lw_tbl := tb_8 _ (List.mem_of_getElem? (i := 34) (by decide +kernel))
set_option maxRecDepth 20000 in
theorem t_564 : Cond.code yJ0_coder_7d493 cJ0_coder_7d493 1 (some .byte) ∈ lw_tbl := tb_3 _ (List.mem_of_getElem? (i := 53) rfl)
set_option maxRecDepth 20000 in
theorem t_565 : Cond.code yJ0_isLatin1_aae02 cJ0_isLatin1_aae02 1 (some .boolean) ∈ lw_tbl := tb_3 _ (List.mem_of_getElem? (i := 63) rfl)
set_option maxRecDepth 20000 in
theorem t_566 : Cond.fieldLink RJ0 9 "java/lang/String" "value" "[B" ∈ lw_tbl := tb_8 _ (List.mem_of_getElem? (i := 33) (by decide +kernel))
set_option maxRecDepth 20000 in
theorem t_567 : Cond.initialized RJ0 ∈ lw_tbl := tb_1 _ (List.mem_of_getElem? (i := 14) (by decide +kernel))
set_option maxRecDepth 20000 in
theorem t_568 : Cond.methodLink RJ0 335 yJ0_coder_7d493 ∈ lw_tbl := tb_3 _ (List.mem_of_getElem? (i := 50) (by decide +kernel))
set_option maxRecDepth 20000 in
theorem t_569 : Cond.instanceMethod yJ0_coder_7d493 ∈ lw_tbl := tb_3 _ (List.mem_of_getElem? (i := 51) (by decide +kernel))
set_option maxRecDepth 20000 in
theorem t_570 : Cond.selects RJ0 yJ0_coder_7d493 yJ0_coder_7d493 ∈ lw_tbl := tb_3 _ (List.mem_of_getElem? (i := 52) (by decide +kernel))
set_option maxRecDepth 20000 in
theorem t_571 : Cond.code yJ0_length_8abf5 cJ0_length_8abf5 1 (some .int) ∈ lw_tbl := tb_3 _ (List.mem_of_getElem? (i := 49) rfl)
set_option maxRecDepth 20000 in
theorem t_572 : Cond.code yJ3_checkIndex_8e157 cJ3_checkIndex_8e157 3 (some .int) ∈ lw_tbl := tb_3 _ (List.mem_of_getElem? (i := 74) rfl)
set_option maxRecDepth 20000 in
theorem t_573 : Cond.fieldLink RJ0 1053 "jdk/internal/util/Preconditions" "SIOOBE_FORMATTER" "Ljava/util/function/BiFunction;" ∈ lw_tbl := tb_3 _ (List.mem_of_getElem? (i := 70) (by decide +kernel))
set_option maxRecDepth 20000 in
theorem t_574 : Cond.initialized RJ3 ∈ lw_tbl := tb_1 _ (List.mem_of_getElem? (i := 16) (by decide +kernel))
set_option maxRecDepth 20000 in
theorem t_575 : Cond.methodLink RJ0 1059 yJ3_checkIndex_8e157 ∈ lw_tbl := tb_3 _ (List.mem_of_getElem? (i := 72) (by decide +kernel))
set_option maxRecDepth 20000 in
theorem t_576 : Cond.static yJ3_checkIndex_8e157 ∈ lw_tbl := tb_3 _ (List.mem_of_getElem? (i := 73) (by decide +kernel))
set_option maxRecDepth 20000 in
theorem t_577 : Cond.code yJ0_checkIndex_df160 cJ0_checkIndex_df160 2 none ∈ lw_tbl := tb_3 _ (List.mem_of_getElem? (i := 69) rfl)
set_option maxRecDepth 20000 in
theorem t_578 : Cond.methodLink RJ1 9 yJ0_checkIndex_df160 ∈ lw_tbl := tb_3 _ (List.mem_of_getElem? (i := 67) (by decide +kernel))
set_option maxRecDepth 20000 in
theorem t_579 : Cond.static yJ0_checkIndex_df160 ∈ lw_tbl := tb_3 _ (List.mem_of_getElem? (i := 68) (by decide +kernel))
set_option maxRecDepth 20000 in
theorem t_580 : Cond.code yJ1_charAt_3b067 cJ1_charAt_3b067 2 (some .char) ∈ lw_tbl := tb_3 _ (List.mem_of_getElem? (i := 66) rfl)
set_option maxRecDepth 20000 in
theorem t_581 : Cond.methodLink RJ0 492 yJ0_isLatin1_aae02 ∈ lw_tbl := tb_3 _ (List.mem_of_getElem? (i := 60) (by decide +kernel))
set_option maxRecDepth 20000 in
theorem t_582 : Cond.instanceMethod yJ0_isLatin1_aae02 ∈ lw_tbl := tb_3 _ (List.mem_of_getElem? (i := 61) (by decide +kernel))
set_option maxRecDepth 20000 in
theorem t_583 : Cond.selects RJ0 yJ0_isLatin1_aae02 yJ0_isLatin1_aae02 ∈ lw_tbl := tb_3 _ (List.mem_of_getElem? (i := 62) (by decide +kernel))
set_option maxRecDepth 20000 in
theorem t_584 : Cond.initialized RJ1 ∈ lw_tbl := tb_1 _ (List.mem_of_getElem? (i := 15) (by decide +kernel))
set_option maxRecDepth 20000 in
theorem t_585 : Cond.methodLink RJ0 495 yJ1_charAt_3b067 ∈ lw_tbl := tb_3 _ (List.mem_of_getElem? (i := 64) (by decide +kernel))
set_option maxRecDepth 20000 in
theorem t_586 : Cond.static yJ1_charAt_3b067 ∈ lw_tbl := tb_3 _ (List.mem_of_getElem? (i := 65) (by decide +kernel))
set_option maxRecDepth 20000 in
theorem t_587 : Cond.code yJ0_charAt_5068e cJ0_charAt_5068e 2 (some .char) ∈ lw_tbl := tb_3 _ (List.mem_of_getElem? (i := 59) rfl)
set_option maxRecDepth 20000 in
theorem t_588 : Cond.fieldLink RX3 55 "CardBowl$Reader" "kind" "I" ∈ lw_tbl := tb_1 _ (List.mem_of_getElem? (i := 170) (by decide +kernel))
set_option maxRecDepth 20000 in
theorem t_589 : Cond.methodLink RX3 189 yJ0_length_8abf5 ∈ lw_tbl := tb_3 _ (List.mem_of_getElem? (i := 46) (by decide +kernel))
set_option maxRecDepth 20000 in
theorem t_590 : Cond.instanceMethod yJ0_length_8abf5 ∈ lw_tbl := tb_3 _ (List.mem_of_getElem? (i := 47) (by decide +kernel))
set_option maxRecDepth 20000 in
theorem t_591 : Cond.selects RJ0 yJ0_length_8abf5 yJ0_length_8abf5 ∈ lw_tbl := tb_3 _ (List.mem_of_getElem? (i := 48) (by decide +kernel))
set_option maxRecDepth 20000 in
theorem t_592 : Cond.fieldLink RX3 179 "CardBowl$Reader" "begin" "I" ∈ lw_tbl := tb_1 _ (List.mem_of_getElem? (i := 168) (by decide +kernel))
set_option maxRecDepth 20000 in
theorem t_593 : Cond.fieldLink RX3 42 "CardBowl$Reader" "next" "I" ∈ lw_tbl := tb_1 _ (List.mem_of_getElem? (i := 169) (by decide +kernel))
set_option maxRecDepth 20000 in
theorem t_594 : Cond.methodLink RX3 195 yJ0_charAt_5068e ∈ lw_tbl := tb_3 _ (List.mem_of_getElem? (i := 56) (by decide +kernel))
set_option maxRecDepth 20000 in
theorem t_595 : Cond.instanceMethod yJ0_charAt_5068e ∈ lw_tbl := tb_3 _ (List.mem_of_getElem? (i := 57) (by decide +kernel))
set_option maxRecDepth 20000 in
theorem t_596 : Cond.selects RJ0 yJ0_charAt_5068e yJ0_charAt_5068e ∈ lw_tbl := tb_3 _ (List.mem_of_getElem? (i := 58) (by decide +kernel))
set_option maxRecDepth 20000 in
theorem t_597 : Cond.fieldLink RX3 29 "CardBowl$Reader" "text" "[B" ∈ lw_tbl := tb_1 _ (List.mem_of_getElem? (i := 166) (by decide +kernel))
set_option maxRecDepth 20000 in
theorem t_598 : Cond.code yX3_among cX3_among 7 (some .int) ∈ lw_tbl := tb_3 _ (List.mem_of_getElem? (i := 45) rfl)
set_option maxRecDepth 20000 in
theorem t_599 : Cond.fieldLink RX3 45 "CardBowl$Reader" "fault" "I" ∈ lw_tbl := tb_1 _ (List.mem_of_getElem? (i := 162) (by decide +kernel))
set_option maxRecDepth 20000 in
theorem t_600 : Cond.fieldLink RX3 25 "CardBowl$Reader" "place" "I" ∈ lw_tbl := tb_1 _ (List.mem_of_getElem? (i := 164) (by decide +kernel))
set_option maxRecDepth 20000 in
theorem t_601 : Cond.code yX3_refuse cX3_refuse 2 none ∈ lw_tbl := tb_3 _ (List.mem_of_getElem? (i := 101) rfl)
set_option maxRecDepth 20000 in
theorem t_602 : Cond.fieldLink RX3 39 "CardBowl$Reader" "size" "I" ∈ lw_tbl := tb_1 _ (List.mem_of_getElem? (i := 167) (by decide +kernel))
set_option maxRecDepth 20000 in
theorem t_603 : Cond.code yX3_takeWord cX3_takeWord 1 none ∈ lw_tbl := tb_3 _ (List.mem_of_getElem? (i := 35) rfl)
set_option maxRecDepth 20000 in
theorem t_604 : Cond.fieldLink RX3 136 "CardBowl$Reader" "value" "I" ∈ lw_tbl := tb_1 _ (List.mem_of_getElem? (i := 171) (by decide +kernel))
set_option maxRecDepth 20000 in
theorem t_605 : Cond.constant RX3 188 (1000000) ∈ lw_tbl := tb_3 _ (List.mem_of_getElem? (i := 40) (by decide +kernel))
set_option maxRecDepth 20000 in
theorem t_606 : Cond.methodLink RX3 33 Lib.Math.min.name ∈ lw_tbl := tb_3 _ (List.mem_of_getElem? (i := 14) (by decide +kernel))
set_option maxRecDepth 20000 in
theorem t_607 : Cond.code yX3_takeNumber cX3_takeNumber 1 none ∈ lw_tbl := tb_3 _ (List.mem_of_getElem? (i := 39) rfl)
set_option maxRecDepth 20000 in
theorem t_608 : Cond.initialized RX3 ∈ lw_tbl := tb_1 _ (List.mem_of_getElem? (i := 2) (by decide +kernel))
set_option maxRecDepth 20000 in
theorem t_609 : Cond.methodLink RX3 182 yX3_takeWord ∈ lw_tbl := tb_3 _ (List.mem_of_getElem? (i := 32) (by decide +kernel))
set_option maxRecDepth 20000 in
theorem t_610 : Cond.instanceMethod yX3_takeWord ∈ lw_tbl := tb_3 _ (List.mem_of_getElem? (i := 34) (by decide +kernel))
theorem t_611 : Cond.selects RX3 yX3_takeWord yX3_takeWord ∈ lw_tbl := List.mem_append_left _ (List.mem_of_getElem? (i := 2) (by decide +kernel))
set_option maxRecDepth 20000 in
theorem t_612 : Cond.methodLink RX3 185 yX3_takeNumber ∈ lw_tbl := tb_3 _ (List.mem_of_getElem? (i := 36) (by decide +kernel))
set_option maxRecDepth 20000 in
theorem t_613 : Cond.instanceMethod yX3_takeNumber ∈ lw_tbl := tb_3 _ (List.mem_of_getElem? (i := 38) (by decide +kernel))
theorem t_614 : Cond.selects RX3 yX3_takeNumber yX3_takeNumber ∈ lw_tbl := List.mem_append_left _ (List.mem_of_getElem? (i := 3) (by decide +kernel))
set_option maxRecDepth 20000 in
theorem t_615 : Cond.code yX3_advance cX3_advance 1 none ∈ lw_tbl := tb_3 _ (List.mem_of_getElem? (i := 31) rfl)
set_option maxRecDepth 20000 in
theorem t_616 : Cond.methodLink RX3 52 yX3_advance ∈ lw_tbl := tb_3 _ (List.mem_of_getElem? (i := 28) (by decide +kernel))
set_option maxRecDepth 20000 in
theorem t_617 : Cond.instanceMethod yX3_advance ∈ lw_tbl := tb_3 _ (List.mem_of_getElem? (i := 30) (by decide +kernel))
theorem t_618 : Cond.selects RX3 yX3_advance yX3_advance ∈ lw_tbl := List.mem_append_left _ (List.mem_of_getElem? (i := 1) (by decide +kernel))
set_option maxRecDepth 20000 in
theorem t_619 : Cond.methodLink RX3 89 yX3_refuse ∈ lw_tbl := tb_3 _ (List.mem_of_getElem? (i := 98) (by decide +kernel))
set_option maxRecDepth 20000 in
theorem t_620 : Cond.instanceMethod yX3_refuse ∈ lw_tbl := tb_3 _ (List.mem_of_getElem? (i := 100) (by decide +kernel))
theorem t_621 : Cond.selects RX3 yX3_refuse yX3_refuse ∈ lw_tbl := List.mem_append_left _ (List.mem_of_getElem? (i := 6) (by decide +kernel))
set_option maxRecDepth 20000 in
theorem t_622 : Cond.code yX3_number cX3_number 4 (some .int) ∈ lw_tbl := tb_3 _ (List.mem_of_getElem? (i := 112) rfl)
set_option maxRecDepth 20000 in
theorem t_623 : Cond.methodLink RX3 60 yX3_among ∈ lw_tbl := tb_3 _ (List.mem_of_getElem? (i := 42) (by decide +kernel))
set_option maxRecDepth 20000 in
theorem t_624 : Cond.instanceMethod yX3_among ∈ lw_tbl := tb_3 _ (List.mem_of_getElem? (i := 44) (by decide +kernel))
theorem t_625 : Cond.selects RX3 yX3_among yX3_among ∈ lw_tbl := List.mem_append_left _ (List.mem_of_getElem? (i := 4) (by decide +kernel))
set_option maxRecDepth 20000 in
theorem t_626 : Cond.code yX3_choice cX3_choice 3 (some .int) ∈ lw_tbl := tb_3 _ (List.mem_of_getElem? (i := 106) rfl)
set_option maxRecDepth 20000 in
theorem t_627 : Cond.code yX3_takes cX3_takes 2 (some .boolean) ∈ lw_tbl := tb_3 _ (List.mem_of_getElem? (i := 117) rfl)
set_option maxRecDepth 20000 in
theorem t_628 : Cond.fieldLink RX3 21 "CardBowl$Reader" "code" "LCardBowl$Code;" ∈ lw_tbl := tb_1 _ (List.mem_of_getElem? (i := 160) (by decide +kernel))
set_option maxRecDepth 20000 in
theorem t_629 : Cond.methodLink RX3 97 yX3_choice ∈ lw_tbl := tb_3 _ (List.mem_of_getElem? (i := 103) (by decide +kernel))
set_option maxRecDepth 20000 in
theorem t_630 : Cond.instanceMethod yX3_choice ∈ lw_tbl := tb_3 _ (List.mem_of_getElem? (i := 105) (by decide +kernel))
theorem t_631 : Cond.selects RX3 yX3_choice yX3_choice ∈ lw_tbl := List.mem_append_left _ (List.mem_of_getElem? (i := 7) (by decide +kernel))
set_option maxRecDepth 20000 in
theorem t_632 : Cond.methodLink RX3 80 yX3_number ∈ lw_tbl := tb_3 _ (List.mem_of_getElem? (i := 109) (by decide +kernel))
set_option maxRecDepth 20000 in
theorem t_633 : Cond.instanceMethod yX3_number ∈ lw_tbl := tb_3 _ (List.mem_of_getElem? (i := 111) (by decide +kernel))
theorem t_634 : Cond.selects RX3 yX3_number yX3_number ∈ lw_tbl := List.mem_append_left _ (List.mem_of_getElem? (i := 8) (by decide +kernel))
set_option maxRecDepth 20000 in
theorem t_635 : Cond.methodLink RX3 174 yX0_put ∈ lw_tbl := tb_3 _ (List.mem_of_getElem? (i := 123) (by decide +kernel))
set_option maxRecDepth 20000 in
theorem t_636 : Cond.instanceMethod yX0_put ∈ lw_tbl := tb_3 _ (List.mem_of_getElem? (i := 124) (by decide +kernel))
set_option maxRecDepth 20000 in
theorem t_637 : Cond.selects RX0 yX0_put yX0_put ∈ lw_tbl := tb_3 _ (List.mem_of_getElem? (i := 125) (by decide +kernel))
set_option maxRecDepth 20000 in
theorem t_638 : Cond.code yX3_readTests cX3_readTests 7 none ∈ lw_tbl := tb_3 _ (List.mem_of_getElem? (i := 121) rfl)
set_option maxRecDepth 20000 in
theorem t_639 : Cond.fieldLink RX3 142 "CardBowl$Code" "lines" "I" ∈ lw_tbl := tb_1 _ (List.mem_of_getElem? (i := 118) (by decide +kernel))
set_option maxRecDepth 20000 in
theorem t_640 : Cond.fieldLink RX3 147 "CardBowl$Code" "paying" "[I" ∈ lw_tbl := tb_1 _ (List.mem_of_getElem? (i := 123) (by decide +kernel))
set_option maxRecDepth 20000 in
theorem t_641 : Cond.fieldLink RX3 150 "CardBowl$Code" "kind" "[I" ∈ lw_tbl := tb_1 _ (List.mem_of_getElem? (i := 125) (by decide +kernel))
set_option maxRecDepth 20000 in
theorem t_642 : Cond.fieldLink RX3 156 "CardBowl$Code" "within" "[I" ∈ lw_tbl := tb_1 _ (List.mem_of_getElem? (i := 128) (by decide +kernel))
set_option maxRecDepth 20000 in
theorem t_643 : Cond.fieldLink RX3 158 "CardBowl$Code" "start" "[I" ∈ lw_tbl := tb_1 _ (List.mem_of_getElem? (i := 131) (by decide +kernel))
set_option maxRecDepth 20000 in
theorem t_644 : Cond.fieldLink RX3 161 "CardBowl$Code" "used" "I" ∈ lw_tbl := tb_1 _ (List.mem_of_getElem? (i := 121) (by decide +kernel))
set_option maxRecDepth 20000 in
theorem t_645 : Cond.methodLink RX3 128 yX3_takes ∈ lw_tbl := tb_3 _ (List.mem_of_getElem? (i := 114) (by decide +kernel))
set_option maxRecDepth 20000 in
theorem t_646 : Cond.instanceMethod yX3_takes ∈ lw_tbl := tb_3 _ (List.mem_of_getElem? (i := 116) (by decide +kernel))
theorem t_647 : Cond.selects RX3 yX3_takes yX3_takes ∈ lw_tbl := List.mem_append_left _ (List.mem_of_getElem? (i := 9) (by decide +kernel))
set_option maxRecDepth 20000 in
theorem t_648 : Cond.methodLink RX3 166 yX3_readTests ∈ lw_tbl := tb_3 _ (List.mem_of_getElem? (i := 118) (by decide +kernel))
set_option maxRecDepth 20000 in
theorem t_649 : Cond.instanceMethod yX3_readTests ∈ lw_tbl := tb_3 _ (List.mem_of_getElem? (i := 120) (by decide +kernel))
theorem t_650 : Cond.selects RX3 yX3_readTests yX3_readTests ∈ lw_tbl := List.mem_append_left _ (List.mem_of_getElem? (i := 10) (by decide +kernel))
set_option maxRecDepth 20000 in
theorem t_651 : Cond.fieldLink RX3 169 "CardBowl$Code" "stop" "[I" ∈ lw_tbl := tb_1 _ (List.mem_of_getElem? (i := 133) (by decide +kernel))
set_option maxRecDepth 20000 in
theorem t_652 : Cond.code yX3_readOwes cX3_readOwes 3 none ∈ lw_tbl := tb_3 _ (List.mem_of_getElem? (i := 97) rfl)
set_option maxRecDepth 20000 in
theorem t_653 : Cond.fieldLink RX3 12 "CardBowl$Reader" "town" "LCardBowl$Town;" ∈ lw_tbl := tb_1 _ (List.mem_of_getElem? (i := 158) (by decide +kernel))
set_option maxRecDepth 20000 in
theorem t_654 : Cond.fieldLink RX3 92 "CardBowl$Town" "houses" "I" ∈ lw_tbl := tb_1 _ (List.mem_of_getElem? (i := 44) (by decide +kernel))
set_option maxRecDepth 20000 in
theorem t_655 : Cond.fieldLink RX3 139 "CardBowl$Town" "told" "[I" ∈ lw_tbl := tb_1 _ (List.mem_of_getElem? (i := 83) (by decide +kernel))
set_option maxRecDepth 20000 in
theorem t_656 : Cond.code yX3_readKnow cX3_readKnow 3 none ∈ lw_tbl := tb_3 _ (List.mem_of_getElem? (i := 145) rfl)
set_option maxRecDepth 20000 in
theorem t_657 : Cond.fieldLink RX3 100 "CardBowl$Town" "x" "[I" ∈ lw_tbl := tb_1 _ (List.mem_of_getElem? (i := 54) (by decide +kernel))
set_option maxRecDepth 20000 in
theorem t_658 : Cond.fieldLink RX3 104 "CardBowl$Town" "y" "[I" ∈ lw_tbl := tb_1 _ (List.mem_of_getElem? (i := 57) (by decide +kernel))
set_option maxRecDepth 20000 in
theorem t_659 : Cond.fieldLink RX3 109 "CardBowl$Town" "rank" "[I" ∈ lw_tbl := tb_1 _ (List.mem_of_getElem? (i := 60) (by decide +kernel))
set_option maxRecDepth 20000 in
theorem t_660 : Cond.fieldLink RX3 113 "CardBowl$Town" "weekday" "[I" ∈ lw_tbl := tb_1 _ (List.mem_of_getElem? (i := 64) (by decide +kernel))
set_option maxRecDepth 20000 in
theorem t_661 : Cond.fieldLink RX3 118 "CardBowl$Town" "from" "[I" ∈ lw_tbl := tb_1 _ (List.mem_of_getElem? (i := 70) (by decide +kernel))
set_option maxRecDepth 20000 in
theorem t_662 : Cond.fieldLink RX3 121 "CardBowl$Town" "to" "[I" ∈ lw_tbl := tb_1 _ (List.mem_of_getElem? (i := 74) (by decide +kernel))
set_option maxRecDepth 20000 in
theorem t_663 : Cond.fieldLink RX3 124 "CardBowl$Town" "came" "[I" ∈ lw_tbl := tb_1 _ (List.mem_of_getElem? (i := 77) (by decide +kernel))
set_option maxRecDepth 20000 in
theorem t_664 : Cond.fieldLink RX3 132 "CardBowl$Town" "bride" "[I" ∈ lw_tbl := tb_1 _ (List.mem_of_getElem? (i := 80) (by decide +kernel))
set_option maxRecDepth 20000 in
theorem t_665 : Cond.code yX3_readHouse cX3_readHouse 2 none ∈ lw_tbl := tb_3 _ (List.mem_of_getElem? (i := 135) rfl)
set_option maxRecDepth 20000 in
theorem t_666 : Cond.methodLink RX3 74 yX3_readHouse ∈ lw_tbl := tb_3 _ (List.mem_of_getElem? (i := 132) (by decide +kernel))
set_option maxRecDepth 20000 in
theorem t_667 : Cond.instanceMethod yX3_readHouse ∈ lw_tbl := tb_3 _ (List.mem_of_getElem? (i := 134) (by decide +kernel))
theorem t_668 : Cond.selects RX3 yX3_readHouse yX3_readHouse ∈ lw_tbl := List.mem_append_left _ (List.mem_of_getElem? (i := 12) (by decide +kernel))
set_option maxRecDepth 20000 in
theorem t_669 : Cond.methodLink RX3 77 yX3_readKnow ∈ lw_tbl := tb_3 _ (List.mem_of_getElem? (i := 142) (by decide +kernel))
set_option maxRecDepth 20000 in
theorem t_670 : Cond.instanceMethod yX3_readKnow ∈ lw_tbl := tb_3 _ (List.mem_of_getElem? (i := 144) (by decide +kernel))
theorem t_671 : Cond.selects RX3 yX3_readKnow yX3_readKnow ∈ lw_tbl := List.mem_append_left _ (List.mem_of_getElem? (i := 13) (by decide +kernel))
set_option maxRecDepth 20000 in
theorem t_672 : Cond.fieldLink RX3 83 "CardBowl$Town" "fresh" "I" ∈ lw_tbl := tb_1 _ (List.mem_of_getElem? (i := 46) (by decide +kernel))
set_option maxRecDepth 20000 in
theorem t_673 : Cond.fieldLink RX3 86 "CardBowl$Town" "introducers" "I" ∈ lw_tbl := tb_1 _ (List.mem_of_getElem? (i := 49) (by decide +kernel))
set_option maxRecDepth 20000 in
theorem t_674 : Cond.code yX3_readOther cX3_readOther 2 none ∈ lw_tbl := tb_3 _ (List.mem_of_getElem? (i := 131) rfl)
set_option maxRecDepth 20000 in
theorem t_675 : Cond.code yX3_closeLine cX3_closeLine 1 none ∈ lw_tbl := tb_3 _ (List.mem_of_getElem? (i := 149) rfl)
set_option maxRecDepth 20000 in
theorem t_676 : Cond.methodLink RX3 48 yX7_clear ∈ lw_tbl := tb_3 _ (List.mem_of_getElem? (i := 17) (by decide +kernel))
set_option maxRecDepth 20000 in
theorem t_677 : Cond.instanceMethod yX7_clear ∈ lw_tbl := tb_3 _ (List.mem_of_getElem? (i := 18) (by decide +kernel))
set_option maxRecDepth 20000 in
theorem t_678 : Cond.selects RX7 yX7_clear yX7_clear ∈ lw_tbl := tb_3 _ (List.mem_of_getElem? (i := 19) (by decide +kernel))
set_option maxRecDepth 20000 in
theorem t_679 : Cond.methodLink RX3 51 yX0_clear ∈ lw_tbl := tb_3 _ (List.mem_of_getElem? (i := 24) (by decide +kernel))
set_option maxRecDepth 20000 in
theorem t_680 : Cond.instanceMethod yX0_clear ∈ lw_tbl := tb_3 _ (List.mem_of_getElem? (i := 25) (by decide +kernel))
set_option maxRecDepth 20000 in
theorem t_681 : Cond.selects RX0 yX0_clear yX0_clear ∈ lw_tbl := tb_3 _ (List.mem_of_getElem? (i := 26) (by decide +kernel))
set_option maxRecDepth 20000 in
theorem t_682 : Cond.methodLink RX3 68 yX3_readOther ∈ lw_tbl := tb_3 _ (List.mem_of_getElem? (i := 128) (by decide +kernel))
set_option maxRecDepth 20000 in
theorem t_683 : Cond.instanceMethod yX3_readOther ∈ lw_tbl := tb_3 _ (List.mem_of_getElem? (i := 130) (by decide +kernel))
theorem t_684 : Cond.selects RX3 yX3_readOther yX3_readOther ∈ lw_tbl := List.mem_append_left _ (List.mem_of_getElem? (i := 11) (by decide +kernel))
set_option maxRecDepth 20000 in
theorem t_685 : Cond.methodLink RX3 64 yX3_readOwes ∈ lw_tbl := tb_3 _ (List.mem_of_getElem? (i := 94) (by decide +kernel))
set_option maxRecDepth 20000 in
theorem t_686 : Cond.instanceMethod yX3_readOwes ∈ lw_tbl := tb_3 _ (List.mem_of_getElem? (i := 96) (by decide +kernel))
theorem t_687 : Cond.selects RX3 yX3_readOwes yX3_readOwes ∈ lw_tbl := List.mem_append_left _ (List.mem_of_getElem? (i := 5) (by decide +kernel))
set_option maxRecDepth 20000 in
theorem t_688 : Cond.methodLink RX3 71 yX3_closeLine ∈ lw_tbl := tb_3 _ (List.mem_of_getElem? (i := 146) (by decide +kernel))
set_option maxRecDepth 20000 in
theorem t_689 : Cond.instanceMethod yX3_closeLine ∈ lw_tbl := tb_3 _ (List.mem_of_getElem? (i := 148) (by decide +kernel))
theorem t_690 : Cond.selects RX3 yX3_closeLine yX3_closeLine ∈ lw_tbl := List.mem_append_left _ (List.mem_of_getElem? (i := 14) (by decide +kernel))
set_option maxRecDepth 20000 in
theorem t_691 : Cond.code yX3_read cX3_read 5 none ∈ lw_tbl := tb_3 _ (List.mem_of_getElem? (i := 13) rfl)
set_option maxRecDepth 20000 in
theorem t_692 : Cond.methodLink RX9 71 yX3_read ∈ lw_tbl := tb_3 _ (List.mem_of_getElem? (i := 10) (by decide +kernel))
set_option maxRecDepth 20000 in
theorem t_693 : Cond.instanceMethod yX3_read ∈ lw_tbl := tb_3 _ (List.mem_of_getElem? (i := 11) (by decide +kernel))
set_option maxRecDepth 20000 in
theorem t_694 : Cond.selects RX3 yX3_read yX3_read ∈ lw_tbl := tb_3 _ (List.mem_of_getElem? (i := 12) (by decide +kernel))
set_option maxRecDepth 20000 in
theorem t_695 : Cond.fieldLink RX9 78 "CardBowl$Reader" "town" "LCardBowl$Town;" ∈ lw_tbl := tb_1 _ (List.mem_of_getElem? (i := 159) (by decide +kernel))
set_option maxRecDepth 20000 in
theorem t_696 : Cond.fieldLink RX9 82 "CardBowl$Reader" "code" "LCardBowl$Code;" ∈ lw_tbl := tb_1 _ (List.mem_of_getElem? (i := 161) (by decide +kernel))
set_option maxRecDepth 20000 in
theorem t_697 : Cond.methodLink RX9 86 yX6_begin ∈ lw_tbl := tb_3 _ (List.mem_of_getElem? (i := 150) (by decide +kernel))
set_option maxRecDepth 20000 in
theorem t_698 : Cond.instanceMethod yX6_begin ∈ lw_tbl := tb_3 _ (List.mem_of_getElem? (i := 151) (by decide +kernel))
set_option maxRecDepth 20000 in
theorem t_699 : Cond.selects RX6 yX6_begin yX6_begin ∈ lw_tbl := tb_3 _ (List.mem_of_getElem? (i := 152) (by decide +kernel))
set_option maxRecDepth 20000 in
theorem t_700 : Cond.code yX9_town cX9_town 1 (some .int) ∈ lw_tbl := tb_3 _ (List.mem_of_getElem? (i := 9) rfl)
theorem tA_0 : ∀ w ∈ wA_0, w ∈ lw_tbl := List.forall_mem_cons.mpr ⟨t_0, List.forall_mem_cons.mpr ⟨t_1, List.forall_mem_cons.mpr ⟨t_2, List.forall_mem_cons.mpr ⟨t_3, List.forall_mem_cons.mpr ⟨t_4, List.forall_mem_cons.mpr ⟨t_5, List.forall_mem_cons.mpr ⟨t_6, List.forall_mem_cons.mpr ⟨t_7, List.forall_mem_cons.mpr ⟨t_8, List.forall_mem_cons.mpr ⟨t_9, List.forall_mem_cons.mpr ⟨t_10, List.forall_mem_cons.mpr ⟨t_11, List.forall_mem_cons.mpr ⟨t_12, List.forall_mem_cons.mpr ⟨t_13, List.forall_mem_cons.mpr ⟨t_14, List.forall_mem_cons.mpr ⟨t_15, List.forall_mem_cons.mpr ⟨t_16, List.forall_mem_cons.mpr ⟨t_17, List.forall_mem_cons.mpr ⟨t_18, List.forall_mem_cons.mpr ⟨t_19, List.forall_mem_cons.mpr ⟨t_20, List.forall_mem_cons.mpr ⟨t_21, List.forall_mem_cons.mpr ⟨t_22, List.forall_mem_cons.mpr ⟨t_23, fun _ h => absurd h List.not_mem_nil⟩⟩⟩⟩⟩⟩⟩⟩⟩⟩⟩⟩⟩⟩⟩⟩⟩⟩⟩⟩⟩⟩⟩⟩
theorem tA_1 : ∀ w ∈ wA_1, w ∈ lw_tbl := List.forall_mem_cons.mpr ⟨t_24, List.forall_mem_cons.mpr ⟨t_25, List.forall_mem_cons.mpr ⟨t_26, List.forall_mem_cons.mpr ⟨t_27, List.forall_mem_cons.mpr ⟨t_28, List.forall_mem_cons.mpr ⟨t_29, List.forall_mem_cons.mpr ⟨t_30, List.forall_mem_cons.mpr ⟨t_31, List.forall_mem_cons.mpr ⟨t_32, List.forall_mem_cons.mpr ⟨t_33, List.forall_mem_cons.mpr ⟨t_34, List.forall_mem_cons.mpr ⟨t_35, List.forall_mem_cons.mpr ⟨t_36, List.forall_mem_cons.mpr ⟨t_37, List.forall_mem_cons.mpr ⟨t_38, List.forall_mem_cons.mpr ⟨t_39, List.forall_mem_cons.mpr ⟨t_40, List.forall_mem_cons.mpr ⟨t_41, List.forall_mem_cons.mpr ⟨t_42, List.forall_mem_cons.mpr ⟨t_43, List.forall_mem_cons.mpr ⟨t_44, List.forall_mem_cons.mpr ⟨t_45, List.forall_mem_cons.mpr ⟨t_46, List.forall_mem_cons.mpr ⟨t_47, fun _ h => absurd h List.not_mem_nil⟩⟩⟩⟩⟩⟩⟩⟩⟩⟩⟩⟩⟩⟩⟩⟩⟩⟩⟩⟩⟩⟩⟩⟩
theorem tA_2 : ∀ w ∈ wA_2, w ∈ lw_tbl := List.forall_mem_cons.mpr ⟨t_48, List.forall_mem_cons.mpr ⟨t_49, List.forall_mem_cons.mpr ⟨t_50, List.forall_mem_cons.mpr ⟨t_51, List.forall_mem_cons.mpr ⟨t_52, List.forall_mem_cons.mpr ⟨t_53, List.forall_mem_cons.mpr ⟨t_54, List.forall_mem_cons.mpr ⟨t_55, List.forall_mem_cons.mpr ⟨t_56, List.forall_mem_cons.mpr ⟨t_57, List.forall_mem_cons.mpr ⟨t_58, List.forall_mem_cons.mpr ⟨t_59, List.forall_mem_cons.mpr ⟨t_60, List.forall_mem_cons.mpr ⟨t_61, List.forall_mem_cons.mpr ⟨t_62, List.forall_mem_cons.mpr ⟨t_63, List.forall_mem_cons.mpr ⟨t_64, List.forall_mem_cons.mpr ⟨t_65, List.forall_mem_cons.mpr ⟨t_66, List.forall_mem_cons.mpr ⟨t_67, List.forall_mem_cons.mpr ⟨t_68, List.forall_mem_cons.mpr ⟨t_69, List.forall_mem_cons.mpr ⟨t_70, List.forall_mem_cons.mpr ⟨t_71, fun _ h => absurd h List.not_mem_nil⟩⟩⟩⟩⟩⟩⟩⟩⟩⟩⟩⟩⟩⟩⟩⟩⟩⟩⟩⟩⟩⟩⟩⟩
theorem tA_3 : ∀ w ∈ wA_3, w ∈ lw_tbl := List.forall_mem_cons.mpr ⟨t_72, List.forall_mem_cons.mpr ⟨t_73, List.forall_mem_cons.mpr ⟨t_74, List.forall_mem_cons.mpr ⟨t_75, List.forall_mem_cons.mpr ⟨t_76, List.forall_mem_cons.mpr ⟨t_77, List.forall_mem_cons.mpr ⟨t_78, List.forall_mem_cons.mpr ⟨t_79, List.forall_mem_cons.mpr ⟨t_80, List.forall_mem_cons.mpr ⟨t_81, List.forall_mem_cons.mpr ⟨t_82, List.forall_mem_cons.mpr ⟨t_83, List.forall_mem_cons.mpr ⟨t_84, List.forall_mem_cons.mpr ⟨t_85, List.forall_mem_cons.mpr ⟨t_86, List.forall_mem_cons.mpr ⟨t_87, List.forall_mem_cons.mpr ⟨t_88, List.forall_mem_cons.mpr ⟨t_89, List.forall_mem_cons.mpr ⟨t_90, List.forall_mem_cons.mpr ⟨t_91, List.forall_mem_cons.mpr ⟨t_92, List.forall_mem_cons.mpr ⟨t_93, List.forall_mem_cons.mpr ⟨t_94, List.forall_mem_cons.mpr ⟨t_95, fun _ h => absurd h List.not_mem_nil⟩⟩⟩⟩⟩⟩⟩⟩⟩⟩⟩⟩⟩⟩⟩⟩⟩⟩⟩⟩⟩⟩⟩⟩
theorem tA_4 : ∀ w ∈ wA_4, w ∈ lw_tbl := List.forall_mem_cons.mpr ⟨t_96, List.forall_mem_cons.mpr ⟨t_97, List.forall_mem_cons.mpr ⟨t_98, List.forall_mem_cons.mpr ⟨t_99, List.forall_mem_cons.mpr ⟨t_100, List.forall_mem_cons.mpr ⟨t_101, List.forall_mem_cons.mpr ⟨t_102, List.forall_mem_cons.mpr ⟨t_103, List.forall_mem_cons.mpr ⟨t_104, List.forall_mem_cons.mpr ⟨t_105, List.forall_mem_cons.mpr ⟨t_106, List.forall_mem_cons.mpr ⟨t_107, List.forall_mem_cons.mpr ⟨t_108, List.forall_mem_cons.mpr ⟨t_109, List.forall_mem_cons.mpr ⟨t_110, List.forall_mem_cons.mpr ⟨t_111, List.forall_mem_cons.mpr ⟨t_112, List.forall_mem_cons.mpr ⟨t_113, List.forall_mem_cons.mpr ⟨t_114, List.forall_mem_cons.mpr ⟨t_115, List.forall_mem_cons.mpr ⟨t_116, List.forall_mem_cons.mpr ⟨t_117, List.forall_mem_cons.mpr ⟨t_118, List.forall_mem_cons.mpr ⟨t_119, fun _ h => absurd h List.not_mem_nil⟩⟩⟩⟩⟩⟩⟩⟩⟩⟩⟩⟩⟩⟩⟩⟩⟩⟩⟩⟩⟩⟩⟩⟩
theorem tA_5 : ∀ w ∈ wA_5, w ∈ lw_tbl := List.forall_mem_cons.mpr ⟨t_120, List.forall_mem_cons.mpr ⟨t_121, List.forall_mem_cons.mpr ⟨t_122, List.forall_mem_cons.mpr ⟨t_123, List.forall_mem_cons.mpr ⟨t_124, List.forall_mem_cons.mpr ⟨t_125, List.forall_mem_cons.mpr ⟨t_126, List.forall_mem_cons.mpr ⟨t_127, List.forall_mem_cons.mpr ⟨t_128, List.forall_mem_cons.mpr ⟨t_129, List.forall_mem_cons.mpr ⟨t_130, List.forall_mem_cons.mpr ⟨t_131, List.forall_mem_cons.mpr ⟨t_132, List.forall_mem_cons.mpr ⟨t_133, List.forall_mem_cons.mpr ⟨t_134, List.forall_mem_cons.mpr ⟨t_135, List.forall_mem_cons.mpr ⟨t_136, List.forall_mem_cons.mpr ⟨t_137, List.forall_mem_cons.mpr ⟨t_138, List.forall_mem_cons.mpr ⟨t_139, List.forall_mem_cons.mpr ⟨t_140, List.forall_mem_cons.mpr ⟨t_141, List.forall_mem_cons.mpr ⟨t_142, List.forall_mem_cons.mpr ⟨t_143, fun _ h => absurd h List.not_mem_nil⟩⟩⟩⟩⟩⟩⟩⟩⟩⟩⟩⟩⟩⟩⟩⟩⟩⟩⟩⟩⟩⟩⟩⟩
theorem tA_6 : ∀ w ∈ wA_6, w ∈ lw_tbl := List.forall_mem_cons.mpr ⟨t_144, List.forall_mem_cons.mpr ⟨t_145, List.forall_mem_cons.mpr ⟨t_146, List.forall_mem_cons.mpr ⟨t_147, List.forall_mem_cons.mpr ⟨t_148, List.forall_mem_cons.mpr ⟨t_149, List.forall_mem_cons.mpr ⟨t_150, List.forall_mem_cons.mpr ⟨t_151, List.forall_mem_cons.mpr ⟨t_152, List.forall_mem_cons.mpr ⟨t_153, List.forall_mem_cons.mpr ⟨t_154, List.forall_mem_cons.mpr ⟨t_155, List.forall_mem_cons.mpr ⟨t_156, List.forall_mem_cons.mpr ⟨t_157, List.forall_mem_cons.mpr ⟨t_158, List.forall_mem_cons.mpr ⟨t_159, List.forall_mem_cons.mpr ⟨t_160, List.forall_mem_cons.mpr ⟨t_161, List.forall_mem_cons.mpr ⟨t_162, List.forall_mem_cons.mpr ⟨t_163, List.forall_mem_cons.mpr ⟨t_164, List.forall_mem_cons.mpr ⟨t_165, List.forall_mem_cons.mpr ⟨t_166, List.forall_mem_cons.mpr ⟨t_167, fun _ h => absurd h List.not_mem_nil⟩⟩⟩⟩⟩⟩⟩⟩⟩⟩⟩⟩⟩⟩⟩⟩⟩⟩⟩⟩⟩⟩⟩⟩
theorem tA_7 : ∀ w ∈ wA_7, w ∈ lw_tbl := List.forall_mem_cons.mpr ⟨t_168, List.forall_mem_cons.mpr ⟨t_169, List.forall_mem_cons.mpr ⟨t_170, List.forall_mem_cons.mpr ⟨t_171, List.forall_mem_cons.mpr ⟨t_172, List.forall_mem_cons.mpr ⟨t_173, List.forall_mem_cons.mpr ⟨t_174, List.forall_mem_cons.mpr ⟨t_175, List.forall_mem_cons.mpr ⟨t_176, List.forall_mem_cons.mpr ⟨t_177, List.forall_mem_cons.mpr ⟨t_178, List.forall_mem_cons.mpr ⟨t_179, List.forall_mem_cons.mpr ⟨t_180, List.forall_mem_cons.mpr ⟨t_181, List.forall_mem_cons.mpr ⟨t_182, List.forall_mem_cons.mpr ⟨t_183, List.forall_mem_cons.mpr ⟨t_184, List.forall_mem_cons.mpr ⟨t_185, List.forall_mem_cons.mpr ⟨t_186, List.forall_mem_cons.mpr ⟨t_187, List.forall_mem_cons.mpr ⟨t_188, List.forall_mem_cons.mpr ⟨t_189, List.forall_mem_cons.mpr ⟨t_190, List.forall_mem_cons.mpr ⟨t_191, fun _ h => absurd h List.not_mem_nil⟩⟩⟩⟩⟩⟩⟩⟩⟩⟩⟩⟩⟩⟩⟩⟩⟩⟩⟩⟩⟩⟩⟩⟩
theorem tA_8 : ∀ w ∈ wA_8, w ∈ lw_tbl := List.forall_mem_cons.mpr ⟨t_192, List.forall_mem_cons.mpr ⟨t_193, List.forall_mem_cons.mpr ⟨t_194, List.forall_mem_cons.mpr ⟨t_195, List.forall_mem_cons.mpr ⟨t_196, List.forall_mem_cons.mpr ⟨t_197, List.forall_mem_cons.mpr ⟨t_198, List.forall_mem_cons.mpr ⟨t_199, List.forall_mem_cons.mpr ⟨t_200, List.forall_mem_cons.mpr ⟨t_201, List.forall_mem_cons.mpr ⟨t_202, List.forall_mem_cons.mpr ⟨t_203, List.forall_mem_cons.mpr ⟨t_204, List.forall_mem_cons.mpr ⟨t_205, List.forall_mem_cons.mpr ⟨t_206, List.forall_mem_cons.mpr ⟨t_207, List.forall_mem_cons.mpr ⟨t_208, List.forall_mem_cons.mpr ⟨t_209, List.forall_mem_cons.mpr ⟨t_210, List.forall_mem_cons.mpr ⟨t_211, List.forall_mem_cons.mpr ⟨t_212, List.forall_mem_cons.mpr ⟨t_213, List.forall_mem_cons.mpr ⟨t_214, List.forall_mem_cons.mpr ⟨t_215, fun _ h => absurd h List.not_mem_nil⟩⟩⟩⟩⟩⟩⟩⟩⟩⟩⟩⟩⟩⟩⟩⟩⟩⟩⟩⟩⟩⟩⟩⟩
theorem tA_9 : ∀ w ∈ wA_9, w ∈ lw_tbl := List.forall_mem_cons.mpr ⟨t_216, List.forall_mem_cons.mpr ⟨t_217, List.forall_mem_cons.mpr ⟨t_218, List.forall_mem_cons.mpr ⟨t_219, List.forall_mem_cons.mpr ⟨t_220, List.forall_mem_cons.mpr ⟨t_221, List.forall_mem_cons.mpr ⟨t_222, List.forall_mem_cons.mpr ⟨t_223, List.forall_mem_cons.mpr ⟨t_224, List.forall_mem_cons.mpr ⟨t_225, List.forall_mem_cons.mpr ⟨t_226, List.forall_mem_cons.mpr ⟨t_227, List.forall_mem_cons.mpr ⟨t_228, List.forall_mem_cons.mpr ⟨t_229, List.forall_mem_cons.mpr ⟨t_230, List.forall_mem_cons.mpr ⟨t_231, List.forall_mem_cons.mpr ⟨t_232, List.forall_mem_cons.mpr ⟨t_233, List.forall_mem_cons.mpr ⟨t_234, List.forall_mem_cons.mpr ⟨t_235, List.forall_mem_cons.mpr ⟨t_236, List.forall_mem_cons.mpr ⟨t_237, List.forall_mem_cons.mpr ⟨t_238, List.forall_mem_cons.mpr ⟨t_239, fun _ h => absurd h List.not_mem_nil⟩⟩⟩⟩⟩⟩⟩⟩⟩⟩⟩⟩⟩⟩⟩⟩⟩⟩⟩⟩⟩⟩⟩⟩
theorem tA_10 : ∀ w ∈ wA_10, w ∈ lw_tbl := List.forall_mem_cons.mpr ⟨t_240, List.forall_mem_cons.mpr ⟨t_241, List.forall_mem_cons.mpr ⟨t_242, List.forall_mem_cons.mpr ⟨t_243, List.forall_mem_cons.mpr ⟨t_244, List.forall_mem_cons.mpr ⟨t_245, List.forall_mem_cons.mpr ⟨t_246, List.forall_mem_cons.mpr ⟨t_247, List.forall_mem_cons.mpr ⟨t_248, List.forall_mem_cons.mpr ⟨t_249, List.forall_mem_cons.mpr ⟨t_250, List.forall_mem_cons.mpr ⟨t_251, List.forall_mem_cons.mpr ⟨t_252, List.forall_mem_cons.mpr ⟨t_253, List.forall_mem_cons.mpr ⟨t_254, List.forall_mem_cons.mpr ⟨t_255, List.forall_mem_cons.mpr ⟨t_256, List.forall_mem_cons.mpr ⟨t_257, List.forall_mem_cons.mpr ⟨t_258, List.forall_mem_cons.mpr ⟨t_259, List.forall_mem_cons.mpr ⟨t_260, List.forall_mem_cons.mpr ⟨t_261, List.forall_mem_cons.mpr ⟨t_262, List.forall_mem_cons.mpr ⟨t_263, fun _ h => absurd h List.not_mem_nil⟩⟩⟩⟩⟩⟩⟩⟩⟩⟩⟩⟩⟩⟩⟩⟩⟩⟩⟩⟩⟩⟩⟩⟩
theorem tA_11 : ∀ w ∈ wA_11, w ∈ lw_tbl := List.forall_mem_cons.mpr ⟨t_264, List.forall_mem_cons.mpr ⟨t_265, List.forall_mem_cons.mpr ⟨t_266, List.forall_mem_cons.mpr ⟨t_267, List.forall_mem_cons.mpr ⟨t_268, List.forall_mem_cons.mpr ⟨t_269, List.forall_mem_cons.mpr ⟨t_270, List.forall_mem_cons.mpr ⟨t_271, List.forall_mem_cons.mpr ⟨t_272, List.forall_mem_cons.mpr ⟨t_273, List.forall_mem_cons.mpr ⟨t_274, List.forall_mem_cons.mpr ⟨t_275, List.forall_mem_cons.mpr ⟨t_276, List.forall_mem_cons.mpr ⟨t_277, List.forall_mem_cons.mpr ⟨t_278, List.forall_mem_cons.mpr ⟨t_279, List.forall_mem_cons.mpr ⟨t_280, List.forall_mem_cons.mpr ⟨t_281, List.forall_mem_cons.mpr ⟨t_282, List.forall_mem_cons.mpr ⟨t_283, List.forall_mem_cons.mpr ⟨t_284, List.forall_mem_cons.mpr ⟨t_285, List.forall_mem_cons.mpr ⟨t_286, List.forall_mem_cons.mpr ⟨t_287, fun _ h => absurd h List.not_mem_nil⟩⟩⟩⟩⟩⟩⟩⟩⟩⟩⟩⟩⟩⟩⟩⟩⟩⟩⟩⟩⟩⟩⟩⟩
theorem tA_12 : ∀ w ∈ wA_12, w ∈ lw_tbl := List.forall_mem_cons.mpr ⟨t_288, List.forall_mem_cons.mpr ⟨t_289, List.forall_mem_cons.mpr ⟨t_290, List.forall_mem_cons.mpr ⟨t_291, List.forall_mem_cons.mpr ⟨t_292, List.forall_mem_cons.mpr ⟨t_293, List.forall_mem_cons.mpr ⟨t_294, List.forall_mem_cons.mpr ⟨t_295, List.forall_mem_cons.mpr ⟨t_296, List.forall_mem_cons.mpr ⟨t_297, List.forall_mem_cons.mpr ⟨t_298, List.forall_mem_cons.mpr ⟨t_299, List.forall_mem_cons.mpr ⟨t_300, List.forall_mem_cons.mpr ⟨t_301, List.forall_mem_cons.mpr ⟨t_302, List.forall_mem_cons.mpr ⟨t_303, List.forall_mem_cons.mpr ⟨t_304, List.forall_mem_cons.mpr ⟨t_305, List.forall_mem_cons.mpr ⟨t_306, List.forall_mem_cons.mpr ⟨t_307, List.forall_mem_cons.mpr ⟨t_308, List.forall_mem_cons.mpr ⟨t_309, List.forall_mem_cons.mpr ⟨t_310, List.forall_mem_cons.mpr ⟨t_311, fun _ h => absurd h List.not_mem_nil⟩⟩⟩⟩⟩⟩⟩⟩⟩⟩⟩⟩⟩⟩⟩⟩⟩⟩⟩⟩⟩⟩⟩⟩
theorem tA_13 : ∀ w ∈ wA_13, w ∈ lw_tbl := List.forall_mem_cons.mpr ⟨t_312, List.forall_mem_cons.mpr ⟨t_313, List.forall_mem_cons.mpr ⟨t_314, List.forall_mem_cons.mpr ⟨t_315, List.forall_mem_cons.mpr ⟨t_316, List.forall_mem_cons.mpr ⟨t_317, List.forall_mem_cons.mpr ⟨t_318, List.forall_mem_cons.mpr ⟨t_319, List.forall_mem_cons.mpr ⟨t_320, List.forall_mem_cons.mpr ⟨t_321, List.forall_mem_cons.mpr ⟨t_322, List.forall_mem_cons.mpr ⟨t_323, List.forall_mem_cons.mpr ⟨t_324, List.forall_mem_cons.mpr ⟨t_325, List.forall_mem_cons.mpr ⟨t_326, List.forall_mem_cons.mpr ⟨t_327, List.forall_mem_cons.mpr ⟨t_328, List.forall_mem_cons.mpr ⟨t_329, List.forall_mem_cons.mpr ⟨t_330, List.forall_mem_cons.mpr ⟨t_331, List.forall_mem_cons.mpr ⟨t_332, List.forall_mem_cons.mpr ⟨t_333, List.forall_mem_cons.mpr ⟨t_334, List.forall_mem_cons.mpr ⟨t_335, fun _ h => absurd h List.not_mem_nil⟩⟩⟩⟩⟩⟩⟩⟩⟩⟩⟩⟩⟩⟩⟩⟩⟩⟩⟩⟩⟩⟩⟩⟩
theorem tA_14 : ∀ w ∈ wA_14, w ∈ lw_tbl := List.forall_mem_cons.mpr ⟨t_336, List.forall_mem_cons.mpr ⟨t_337, List.forall_mem_cons.mpr ⟨t_338, List.forall_mem_cons.mpr ⟨t_339, List.forall_mem_cons.mpr ⟨t_340, List.forall_mem_cons.mpr ⟨t_341, List.forall_mem_cons.mpr ⟨t_342, List.forall_mem_cons.mpr ⟨t_343, List.forall_mem_cons.mpr ⟨t_344, List.forall_mem_cons.mpr ⟨t_345, List.forall_mem_cons.mpr ⟨t_346, List.forall_mem_cons.mpr ⟨t_347, List.forall_mem_cons.mpr ⟨t_348, List.forall_mem_cons.mpr ⟨t_349, List.forall_mem_cons.mpr ⟨t_350, List.forall_mem_cons.mpr ⟨t_351, List.forall_mem_cons.mpr ⟨t_352, List.forall_mem_cons.mpr ⟨t_353, List.forall_mem_cons.mpr ⟨t_354, List.forall_mem_cons.mpr ⟨t_355, List.forall_mem_cons.mpr ⟨t_356, List.forall_mem_cons.mpr ⟨t_357, List.forall_mem_cons.mpr ⟨t_358, List.forall_mem_cons.mpr ⟨t_359, fun _ h => absurd h List.not_mem_nil⟩⟩⟩⟩⟩⟩⟩⟩⟩⟩⟩⟩⟩⟩⟩⟩⟩⟩⟩⟩⟩⟩⟩⟩
theorem tA_15 : ∀ w ∈ wA_15, w ∈ lw_tbl := List.forall_mem_cons.mpr ⟨t_360, List.forall_mem_cons.mpr ⟨t_361, List.forall_mem_cons.mpr ⟨t_362, List.forall_mem_cons.mpr ⟨t_363, List.forall_mem_cons.mpr ⟨t_364, List.forall_mem_cons.mpr ⟨t_365, List.forall_mem_cons.mpr ⟨t_366, List.forall_mem_cons.mpr ⟨t_367, List.forall_mem_cons.mpr ⟨t_368, List.forall_mem_cons.mpr ⟨t_369, List.forall_mem_cons.mpr ⟨t_370, List.forall_mem_cons.mpr ⟨t_371, List.forall_mem_cons.mpr ⟨t_372, List.forall_mem_cons.mpr ⟨t_373, List.forall_mem_cons.mpr ⟨t_374, List.forall_mem_cons.mpr ⟨t_375, List.forall_mem_cons.mpr ⟨t_376, List.forall_mem_cons.mpr ⟨t_377, List.forall_mem_cons.mpr ⟨t_378, List.forall_mem_cons.mpr ⟨t_379, List.forall_mem_cons.mpr ⟨t_380, List.forall_mem_cons.mpr ⟨t_381, List.forall_mem_cons.mpr ⟨t_382, List.forall_mem_cons.mpr ⟨t_383, fun _ h => absurd h List.not_mem_nil⟩⟩⟩⟩⟩⟩⟩⟩⟩⟩⟩⟩⟩⟩⟩⟩⟩⟩⟩⟩⟩⟩⟩⟩
theorem tA_16 : ∀ w ∈ wA_16, w ∈ lw_tbl := List.forall_mem_cons.mpr ⟨t_384, List.forall_mem_cons.mpr ⟨t_385, List.forall_mem_cons.mpr ⟨t_386, List.forall_mem_cons.mpr ⟨t_387, List.forall_mem_cons.mpr ⟨t_388, List.forall_mem_cons.mpr ⟨t_389, List.forall_mem_cons.mpr ⟨t_390, List.forall_mem_cons.mpr ⟨t_391, List.forall_mem_cons.mpr ⟨t_392, List.forall_mem_cons.mpr ⟨t_393, List.forall_mem_cons.mpr ⟨t_394, List.forall_mem_cons.mpr ⟨t_395, List.forall_mem_cons.mpr ⟨t_396, List.forall_mem_cons.mpr ⟨t_397, List.forall_mem_cons.mpr ⟨t_398, List.forall_mem_cons.mpr ⟨t_399, List.forall_mem_cons.mpr ⟨t_400, List.forall_mem_cons.mpr ⟨t_401, List.forall_mem_cons.mpr ⟨t_402, List.forall_mem_cons.mpr ⟨t_403, List.forall_mem_cons.mpr ⟨t_404, List.forall_mem_cons.mpr ⟨t_405, List.forall_mem_cons.mpr ⟨t_406, List.forall_mem_cons.mpr ⟨t_407, fun _ h => absurd h List.not_mem_nil⟩⟩⟩⟩⟩⟩⟩⟩⟩⟩⟩⟩⟩⟩⟩⟩⟩⟩⟩⟩⟩⟩⟩⟩
theorem tA_17 : ∀ w ∈ wA_17, w ∈ lw_tbl := List.forall_mem_cons.mpr ⟨t_408, List.forall_mem_cons.mpr ⟨t_409, List.forall_mem_cons.mpr ⟨t_410, List.forall_mem_cons.mpr ⟨t_411, List.forall_mem_cons.mpr ⟨t_412, List.forall_mem_cons.mpr ⟨t_413, List.forall_mem_cons.mpr ⟨t_414, List.forall_mem_cons.mpr ⟨t_415, List.forall_mem_cons.mpr ⟨t_416, List.forall_mem_cons.mpr ⟨t_417, List.forall_mem_cons.mpr ⟨t_418, List.forall_mem_cons.mpr ⟨t_419, List.forall_mem_cons.mpr ⟨t_420, List.forall_mem_cons.mpr ⟨t_421, List.forall_mem_cons.mpr ⟨t_422, List.forall_mem_cons.mpr ⟨t_423, List.forall_mem_cons.mpr ⟨t_424, List.forall_mem_cons.mpr ⟨t_425, List.forall_mem_cons.mpr ⟨t_426, List.forall_mem_cons.mpr ⟨t_427, List.forall_mem_cons.mpr ⟨t_428, List.forall_mem_cons.mpr ⟨t_429, List.forall_mem_cons.mpr ⟨t_430, List.forall_mem_cons.mpr ⟨t_431, fun _ h => absurd h List.not_mem_nil⟩⟩⟩⟩⟩⟩⟩⟩⟩⟩⟩⟩⟩⟩⟩⟩⟩⟩⟩⟩⟩⟩⟩⟩
theorem tA_18 : ∀ w ∈ wA_18, w ∈ lw_tbl := List.forall_mem_cons.mpr ⟨t_432, List.forall_mem_cons.mpr ⟨t_433, List.forall_mem_cons.mpr ⟨t_434, List.forall_mem_cons.mpr ⟨t_435, List.forall_mem_cons.mpr ⟨t_436, List.forall_mem_cons.mpr ⟨t_437, List.forall_mem_cons.mpr ⟨t_438, List.forall_mem_cons.mpr ⟨t_439, List.forall_mem_cons.mpr ⟨t_440, List.forall_mem_cons.mpr ⟨t_441, List.forall_mem_cons.mpr ⟨t_442, List.forall_mem_cons.mpr ⟨t_443, List.forall_mem_cons.mpr ⟨t_444, List.forall_mem_cons.mpr ⟨t_445, List.forall_mem_cons.mpr ⟨t_446, List.forall_mem_cons.mpr ⟨t_447, List.forall_mem_cons.mpr ⟨t_448, List.forall_mem_cons.mpr ⟨t_449, List.forall_mem_cons.mpr ⟨t_450, List.forall_mem_cons.mpr ⟨t_451, List.forall_mem_cons.mpr ⟨t_452, List.forall_mem_cons.mpr ⟨t_453, List.forall_mem_cons.mpr ⟨t_454, List.forall_mem_cons.mpr ⟨t_455, fun _ h => absurd h List.not_mem_nil⟩⟩⟩⟩⟩⟩⟩⟩⟩⟩⟩⟩⟩⟩⟩⟩⟩⟩⟩⟩⟩⟩⟩⟩
theorem tA_19 : ∀ w ∈ wA_19, w ∈ lw_tbl := List.forall_mem_cons.mpr ⟨t_456, List.forall_mem_cons.mpr ⟨t_457, List.forall_mem_cons.mpr ⟨t_458, List.forall_mem_cons.mpr ⟨t_459, List.forall_mem_cons.mpr ⟨t_460, List.forall_mem_cons.mpr ⟨t_461, List.forall_mem_cons.mpr ⟨t_462, List.forall_mem_cons.mpr ⟨t_463, List.forall_mem_cons.mpr ⟨t_464, List.forall_mem_cons.mpr ⟨t_465, List.forall_mem_cons.mpr ⟨t_466, List.forall_mem_cons.mpr ⟨t_467, List.forall_mem_cons.mpr ⟨t_468, List.forall_mem_cons.mpr ⟨t_469, List.forall_mem_cons.mpr ⟨t_470, List.forall_mem_cons.mpr ⟨t_471, List.forall_mem_cons.mpr ⟨t_472, List.forall_mem_cons.mpr ⟨t_473, List.forall_mem_cons.mpr ⟨t_474, List.forall_mem_cons.mpr ⟨t_475, List.forall_mem_cons.mpr ⟨t_476, List.forall_mem_cons.mpr ⟨t_477, List.forall_mem_cons.mpr ⟨t_478, List.forall_mem_cons.mpr ⟨t_479, fun _ h => absurd h List.not_mem_nil⟩⟩⟩⟩⟩⟩⟩⟩⟩⟩⟩⟩⟩⟩⟩⟩⟩⟩⟩⟩⟩⟩⟩⟩
theorem tA_20 : ∀ w ∈ wA_20, w ∈ lw_tbl := List.forall_mem_cons.mpr ⟨t_480, List.forall_mem_cons.mpr ⟨t_481, List.forall_mem_cons.mpr ⟨t_482, List.forall_mem_cons.mpr ⟨t_483, List.forall_mem_cons.mpr ⟨t_484, List.forall_mem_cons.mpr ⟨t_485, List.forall_mem_cons.mpr ⟨t_486, List.forall_mem_cons.mpr ⟨t_487, List.forall_mem_cons.mpr ⟨t_488, List.forall_mem_cons.mpr ⟨t_489, List.forall_mem_cons.mpr ⟨t_490, List.forall_mem_cons.mpr ⟨t_491, List.forall_mem_cons.mpr ⟨t_492, List.forall_mem_cons.mpr ⟨t_493, List.forall_mem_cons.mpr ⟨t_494, List.forall_mem_cons.mpr ⟨t_495, List.forall_mem_cons.mpr ⟨t_496, List.forall_mem_cons.mpr ⟨t_497, List.forall_mem_cons.mpr ⟨t_498, List.forall_mem_cons.mpr ⟨t_499, List.forall_mem_cons.mpr ⟨t_500, List.forall_mem_cons.mpr ⟨t_501, List.forall_mem_cons.mpr ⟨t_502, List.forall_mem_cons.mpr ⟨t_503, fun _ h => absurd h List.not_mem_nil⟩⟩⟩⟩⟩⟩⟩⟩⟩⟩⟩⟩⟩⟩⟩⟩⟩⟩⟩⟩⟩⟩⟩⟩
theorem tA_21 : ∀ w ∈ wA_21, w ∈ lw_tbl := List.forall_mem_cons.mpr ⟨t_504, List.forall_mem_cons.mpr ⟨t_505, List.forall_mem_cons.mpr ⟨t_506, List.forall_mem_cons.mpr ⟨t_507, List.forall_mem_cons.mpr ⟨t_508, List.forall_mem_cons.mpr ⟨t_509, List.forall_mem_cons.mpr ⟨t_510, List.forall_mem_cons.mpr ⟨t_511, List.forall_mem_cons.mpr ⟨t_512, List.forall_mem_cons.mpr ⟨t_513, List.forall_mem_cons.mpr ⟨t_514, List.forall_mem_cons.mpr ⟨t_515, List.forall_mem_cons.mpr ⟨t_516, List.forall_mem_cons.mpr ⟨t_517, List.forall_mem_cons.mpr ⟨t_518, List.forall_mem_cons.mpr ⟨t_519, List.forall_mem_cons.mpr ⟨t_520, List.forall_mem_cons.mpr ⟨t_521, List.forall_mem_cons.mpr ⟨t_522, List.forall_mem_cons.mpr ⟨t_523, List.forall_mem_cons.mpr ⟨t_524, List.forall_mem_cons.mpr ⟨t_525, List.forall_mem_cons.mpr ⟨t_526, List.forall_mem_cons.mpr ⟨t_527, fun _ h => absurd h List.not_mem_nil⟩⟩⟩⟩⟩⟩⟩⟩⟩⟩⟩⟩⟩⟩⟩⟩⟩⟩⟩⟩⟩⟩⟩⟩
theorem tA_22 : ∀ w ∈ wA_22, w ∈ lw_tbl := List.forall_mem_cons.mpr ⟨t_528, List.forall_mem_cons.mpr ⟨t_529, List.forall_mem_cons.mpr ⟨t_530, List.forall_mem_cons.mpr ⟨t_531, List.forall_mem_cons.mpr ⟨t_532, List.forall_mem_cons.mpr ⟨t_533, List.forall_mem_cons.mpr ⟨t_534, List.forall_mem_cons.mpr ⟨t_535, List.forall_mem_cons.mpr ⟨t_536, List.forall_mem_cons.mpr ⟨t_537, List.forall_mem_cons.mpr ⟨t_538, List.forall_mem_cons.mpr ⟨t_539, List.forall_mem_cons.mpr ⟨t_540, List.forall_mem_cons.mpr ⟨t_541, List.forall_mem_cons.mpr ⟨t_542, List.forall_mem_cons.mpr ⟨t_543, List.forall_mem_cons.mpr ⟨t_544, List.forall_mem_cons.mpr ⟨t_545, List.forall_mem_cons.mpr ⟨t_546, List.forall_mem_cons.mpr ⟨t_547, List.forall_mem_cons.mpr ⟨t_548, List.forall_mem_cons.mpr ⟨t_549, List.forall_mem_cons.mpr ⟨t_550, List.forall_mem_cons.mpr ⟨t_551, fun _ h => absurd h List.not_mem_nil⟩⟩⟩⟩⟩⟩⟩⟩⟩⟩⟩⟩⟩⟩⟩⟩⟩⟩⟩⟩⟩⟩⟩⟩
theorem tA_23 : ∀ w ∈ wA_23, w ∈ lw_tbl := List.forall_mem_cons.mpr ⟨t_552, List.forall_mem_cons.mpr ⟨t_553, List.forall_mem_cons.mpr ⟨t_554, List.forall_mem_cons.mpr ⟨t_555, List.forall_mem_cons.mpr ⟨t_556, List.forall_mem_cons.mpr ⟨t_557, List.forall_mem_cons.mpr ⟨t_558, List.forall_mem_cons.mpr ⟨t_559, List.forall_mem_cons.mpr ⟨t_560, List.forall_mem_cons.mpr ⟨t_561, List.forall_mem_cons.mpr ⟨t_562, List.forall_mem_cons.mpr ⟨t_563, List.forall_mem_cons.mpr ⟨t_564, List.forall_mem_cons.mpr ⟨t_565, List.forall_mem_cons.mpr ⟨t_566, List.forall_mem_cons.mpr ⟨t_567, List.forall_mem_cons.mpr ⟨t_568, List.forall_mem_cons.mpr ⟨t_569, List.forall_mem_cons.mpr ⟨t_570, List.forall_mem_cons.mpr ⟨t_571, List.forall_mem_cons.mpr ⟨t_572, List.forall_mem_cons.mpr ⟨t_573, List.forall_mem_cons.mpr ⟨t_574, List.forall_mem_cons.mpr ⟨t_575, fun _ h => absurd h List.not_mem_nil⟩⟩⟩⟩⟩⟩⟩⟩⟩⟩⟩⟩⟩⟩⟩⟩⟩⟩⟩⟩⟩⟩⟩⟩
theorem tA_24 : ∀ w ∈ wA_24, w ∈ lw_tbl := List.forall_mem_cons.mpr ⟨t_576, List.forall_mem_cons.mpr ⟨t_577, List.forall_mem_cons.mpr ⟨t_578, List.forall_mem_cons.mpr ⟨t_579, List.forall_mem_cons.mpr ⟨t_580, List.forall_mem_cons.mpr ⟨t_581, List.forall_mem_cons.mpr ⟨t_582, List.forall_mem_cons.mpr ⟨t_583, List.forall_mem_cons.mpr ⟨t_584, List.forall_mem_cons.mpr ⟨t_585, List.forall_mem_cons.mpr ⟨t_586, List.forall_mem_cons.mpr ⟨t_587, List.forall_mem_cons.mpr ⟨t_588, List.forall_mem_cons.mpr ⟨t_589, List.forall_mem_cons.mpr ⟨t_590, List.forall_mem_cons.mpr ⟨t_591, List.forall_mem_cons.mpr ⟨t_592, List.forall_mem_cons.mpr ⟨t_593, List.forall_mem_cons.mpr ⟨t_594, List.forall_mem_cons.mpr ⟨t_595, List.forall_mem_cons.mpr ⟨t_596, List.forall_mem_cons.mpr ⟨t_597, List.forall_mem_cons.mpr ⟨t_598, List.forall_mem_cons.mpr ⟨t_599, fun _ h => absurd h List.not_mem_nil⟩⟩⟩⟩⟩⟩⟩⟩⟩⟩⟩⟩⟩⟩⟩⟩⟩⟩⟩⟩⟩⟩⟩⟩
theorem tA_25 : ∀ w ∈ wA_25, w ∈ lw_tbl := List.forall_mem_cons.mpr ⟨t_600, List.forall_mem_cons.mpr ⟨t_601, List.forall_mem_cons.mpr ⟨t_602, List.forall_mem_cons.mpr ⟨t_603, List.forall_mem_cons.mpr ⟨t_604, List.forall_mem_cons.mpr ⟨t_605, List.forall_mem_cons.mpr ⟨t_606, List.forall_mem_cons.mpr ⟨t_607, List.forall_mem_cons.mpr ⟨t_608, List.forall_mem_cons.mpr ⟨t_609, List.forall_mem_cons.mpr ⟨t_610, List.forall_mem_cons.mpr ⟨t_611, List.forall_mem_cons.mpr ⟨t_612, List.forall_mem_cons.mpr ⟨t_613, List.forall_mem_cons.mpr ⟨t_614, List.forall_mem_cons.mpr ⟨t_615, List.forall_mem_cons.mpr ⟨t_616, List.forall_mem_cons.mpr ⟨t_617, List.forall_mem_cons.mpr ⟨t_618, List.forall_mem_cons.mpr ⟨t_619, List.forall_mem_cons.mpr ⟨t_620, List.forall_mem_cons.mpr ⟨t_621, List.forall_mem_cons.mpr ⟨t_622, List.forall_mem_cons.mpr ⟨t_623, fun _ h => absurd h List.not_mem_nil⟩⟩⟩⟩⟩⟩⟩⟩⟩⟩⟩⟩⟩⟩⟩⟩⟩⟩⟩⟩⟩⟩⟩⟩
theorem tA_26 : ∀ w ∈ wA_26, w ∈ lw_tbl := List.forall_mem_cons.mpr ⟨t_624, List.forall_mem_cons.mpr ⟨t_625, List.forall_mem_cons.mpr ⟨t_626, List.forall_mem_cons.mpr ⟨t_627, List.forall_mem_cons.mpr ⟨t_628, List.forall_mem_cons.mpr ⟨t_629, List.forall_mem_cons.mpr ⟨t_630, List.forall_mem_cons.mpr ⟨t_631, List.forall_mem_cons.mpr ⟨t_632, List.forall_mem_cons.mpr ⟨t_633, List.forall_mem_cons.mpr ⟨t_634, List.forall_mem_cons.mpr ⟨t_635, List.forall_mem_cons.mpr ⟨t_636, List.forall_mem_cons.mpr ⟨t_637, List.forall_mem_cons.mpr ⟨t_638, List.forall_mem_cons.mpr ⟨t_639, List.forall_mem_cons.mpr ⟨t_640, List.forall_mem_cons.mpr ⟨t_641, List.forall_mem_cons.mpr ⟨t_642, List.forall_mem_cons.mpr ⟨t_643, List.forall_mem_cons.mpr ⟨t_644, List.forall_mem_cons.mpr ⟨t_645, List.forall_mem_cons.mpr ⟨t_646, List.forall_mem_cons.mpr ⟨t_647, fun _ h => absurd h List.not_mem_nil⟩⟩⟩⟩⟩⟩⟩⟩⟩⟩⟩⟩⟩⟩⟩⟩⟩⟩⟩⟩⟩⟩⟩⟩
theorem tA_27 : ∀ w ∈ wA_27, w ∈ lw_tbl := List.forall_mem_cons.mpr ⟨t_648, List.forall_mem_cons.mpr ⟨t_649, List.forall_mem_cons.mpr ⟨t_650, List.forall_mem_cons.mpr ⟨t_651, List.forall_mem_cons.mpr ⟨t_652, List.forall_mem_cons.mpr ⟨t_653, List.forall_mem_cons.mpr ⟨t_654, List.forall_mem_cons.mpr ⟨t_655, List.forall_mem_cons.mpr ⟨t_656, List.forall_mem_cons.mpr ⟨t_657, List.forall_mem_cons.mpr ⟨t_658, List.forall_mem_cons.mpr ⟨t_659, List.forall_mem_cons.mpr ⟨t_660, List.forall_mem_cons.mpr ⟨t_661, List.forall_mem_cons.mpr ⟨t_662, List.forall_mem_cons.mpr ⟨t_663, List.forall_mem_cons.mpr ⟨t_664, List.forall_mem_cons.mpr ⟨t_665, List.forall_mem_cons.mpr ⟨t_666, List.forall_mem_cons.mpr ⟨t_667, List.forall_mem_cons.mpr ⟨t_668, List.forall_mem_cons.mpr ⟨t_669, List.forall_mem_cons.mpr ⟨t_670, List.forall_mem_cons.mpr ⟨t_671, fun _ h => absurd h List.not_mem_nil⟩⟩⟩⟩⟩⟩⟩⟩⟩⟩⟩⟩⟩⟩⟩⟩⟩⟩⟩⟩⟩⟩⟩⟩
theorem tA_28 : ∀ w ∈ wA_28, w ∈ lw_tbl := List.forall_mem_cons.mpr ⟨t_672, List.forall_mem_cons.mpr ⟨t_673, List.forall_mem_cons.mpr ⟨t_674, List.forall_mem_cons.mpr ⟨t_675, List.forall_mem_cons.mpr ⟨t_676, List.forall_mem_cons.mpr ⟨t_677, List.forall_mem_cons.mpr ⟨t_678, List.forall_mem_cons.mpr ⟨t_679, List.forall_mem_cons.mpr ⟨t_680, List.forall_mem_cons.mpr ⟨t_681, List.forall_mem_cons.mpr ⟨t_682, List.forall_mem_cons.mpr ⟨t_683, List.forall_mem_cons.mpr ⟨t_684, List.forall_mem_cons.mpr ⟨t_685, List.forall_mem_cons.mpr ⟨t_686, List.forall_mem_cons.mpr ⟨t_687, List.forall_mem_cons.mpr ⟨t_688, List.forall_mem_cons.mpr ⟨t_689, List.forall_mem_cons.mpr ⟨t_690, List.forall_mem_cons.mpr ⟨t_691, List.forall_mem_cons.mpr ⟨t_692, List.forall_mem_cons.mpr ⟨t_693, List.forall_mem_cons.mpr ⟨t_694, List.forall_mem_cons.mpr ⟨t_695, fun _ h => absurd h List.not_mem_nil⟩⟩⟩⟩⟩⟩⟩⟩⟩⟩⟩⟩⟩⟩⟩⟩⟩⟩⟩⟩⟩⟩⟩⟩
theorem tA_29 : ∀ w ∈ wA_29, w ∈ lw_tbl := List.forall_mem_cons.mpr ⟨t_696, List.forall_mem_cons.mpr ⟨t_697, List.forall_mem_cons.mpr ⟨t_698, List.forall_mem_cons.mpr ⟨t_699, List.forall_mem_cons.mpr ⟨t_700, fun _ h => absurd h List.not_mem_nil⟩⟩⟩⟩⟩
set_option maxRecDepth 20000 in
theorem tU_X0 : ∀ w ∈ wsX00, w ∈ lw_tbl := fun w h => List.mem_append_right _ (mem_r (big := tables_1) [137, 139, 141, 143, 145, 147, 149, 151, 153, 155] (by decide +kernel) w h)
set_option maxRecDepth 20000 in
theorem tU_X1 : ∀ w ∈ wsX10, w ∈ lw_tbl := fun w h => List.mem_append_right _ (mem_r (big := tables_1) [226, 228, 230, 232, 234, 236, 238, 240] (by decide +kernel) w h)
set_option maxRecDepth 20000 in
theorem tU_X2 : ∀ w ∈ wsX20, w ∈ lw_tbl := fun w h => List.mem_append_right _ (mem_r (big := tables_1) [260, 262, 264, 266, 268] (by decide +kernel) w h)
set_option maxRecDepth 20000 in
theorem tU_X3 : ∀ w ∈ wsX30, w ∈ lw_tbl := fun w h => List.mem_append_right _ (mem_r (big := tables_1) [172, 174, 176, 178, 180, 182, 184, 186, 188, 190] (by decide +kernel) w h)
set_option maxRecDepth 20000 in
theorem tU_X4 : ∀ w ∈ wsX40, w ∈ lw_tbl := fun w h => List.mem_append_right _ (mem_r (big := tables_1) [339, 341, 343, 345, 347, 349, 351, 353, 355, 357, 359, 361, 363, 365, 367, 369, 371] (by decide +kernel) w h)
set_option maxRecDepth 20000 in
theorem tU_X5 : ∀ w ∈ wsX50, w ∈ lw_tbl := fun w h => List.mem_append_right _ (mem_r (big := tables_1) [433, 435, 437, 439] (by decide +kernel) w h)
set_option maxRecDepth 20000 in
theorem tU_X6 : ∀ w ∈ wsX60, w ∈ lw_tbl := fun w h => List.mem_append_right _ (mem_r (big := tables_1) [291, 293, 295, 297, 299, 301, 303, 305] (by decide +kernel) w h)
set_option maxRecDepth 20000 in
theorem tU_X7 : ∀ w ∈ wsX70, w ∈ lw_tbl := fun w h => List.mem_append_right _ (mem_r (big := tables_1) [84, 86, 88, 90, 92, 94, 96, 98, 100, 102, 104, 106] (by decide +kernel) w h)
set_option maxRecDepth 20000 in
theorem tU_X8 : ∀ w ∈ wsX80, w ∈ lw_tbl := fun w h => List.mem_append_right _ (mem_r (big := tables_1) [394, 396, 398, 400, 402, 404, 406, 408, 410, 412, 414] (by decide +kernel) w h)
set_option maxRecDepth 20000 in
theorem tU_X9 : ∀ w ∈ wsX90, w ∈ lw_tbl := fun w h => List.mem_append_right _ (mem_r (big := tables_1) [453, 455, 457, 459, 461, 463, 465, 467, 469, 471] (by decide +kernel) w h)
set_option maxRecDepth 20000 in
theorem tU_X10 : ∀ w ∈ wsX100, w ∈ lw_tbl := fun w h => List.mem_append_right _ (mem_r (big := tables_1) [1174, 1176, 1178, 1180, 1182, 1184, 1186, 1188, 1190, 1192, 1194, 1196, 1198, 1200, 1202, 1204, 1206, 1208, 1210, 1212, 1214, 1216, 1218, 1220, 1222, 1224, 1226, 1228, 1230, 1232, 1234, 1236, 1238, 1240, 1242, 1244, 1246, 1248, 1250, 1252, 1254] (by decide +kernel) w h)
theorem wAll_in : ∀ w ∈ wAll, w ∈ lw_tbl := List.forall_mem_append.mpr ⟨tA_0, List.forall_mem_append.mpr ⟨tA_1, List.forall_mem_append.mpr ⟨tA_2, List.forall_mem_append.mpr ⟨tA_3, List.forall_mem_append.mpr ⟨tA_4, List.forall_mem_append.mpr ⟨tA_5, List.forall_mem_append.mpr ⟨tA_6, List.forall_mem_append.mpr ⟨tA_7, List.forall_mem_append.mpr ⟨tA_8, List.forall_mem_append.mpr ⟨tA_9, List.forall_mem_append.mpr ⟨tA_10, List.forall_mem_append.mpr ⟨tA_11, List.forall_mem_append.mpr ⟨tA_12, List.forall_mem_append.mpr ⟨tA_13, List.forall_mem_append.mpr ⟨tA_14, List.forall_mem_append.mpr ⟨tA_15, List.forall_mem_append.mpr ⟨tA_16, List.forall_mem_append.mpr ⟨tA_17, List.forall_mem_append.mpr ⟨tA_18, List.forall_mem_append.mpr ⟨tA_19, List.forall_mem_append.mpr ⟨tA_20, List.forall_mem_append.mpr ⟨tA_21, List.forall_mem_append.mpr ⟨tA_22, List.forall_mem_append.mpr ⟨tA_23, List.forall_mem_append.mpr ⟨tA_24, List.forall_mem_append.mpr ⟨tA_25, List.forall_mem_append.mpr ⟨tA_26, List.forall_mem_append.mpr ⟨tA_27, List.forall_mem_append.mpr ⟨tA_28, List.forall_mem_append.mpr ⟨tA_29, List.forall_mem_append.mpr ⟨tU_X0, List.forall_mem_append.mpr ⟨tU_X1, List.forall_mem_append.mpr ⟨tU_X2, List.forall_mem_append.mpr ⟨tU_X3, List.forall_mem_append.mpr ⟨tU_X4, List.forall_mem_append.mpr ⟨tU_X5, List.forall_mem_append.mpr ⟨tU_X6, List.forall_mem_append.mpr ⟨tU_X7, List.forall_mem_append.mpr ⟨tU_X8, List.forall_mem_append.mpr ⟨tU_X9, tU_X10⟩⟩⟩⟩⟩⟩⟩⟩⟩⟩⟩⟩⟩⟩⟩⟩⟩⟩⟩⟩⟩⟩⟩⟩⟩⟩⟩⟩⟩⟩⟩⟩⟩⟩⟩⟩⟩⟩⟩⟩
theorem gd_wA_0 : wA_0.all goodWord = true := by decide +kernel
theorem gd_wA_1 : wA_1.all goodWord = true := by decide +kernel
theorem gd_wA_2 : wA_2.all goodWord = true := by decide +kernel
theorem gd_wA_3 : wA_3.all goodWord = true := by decide +kernel
theorem gd_wA_4 : wA_4.all goodWord = true := by decide +kernel
theorem gd_wA_5 : wA_5.all goodWord = true := by decide +kernel
theorem gd_wA_6 : wA_6.all goodWord = true := by decide +kernel
theorem gd_wA_7 : wA_7.all goodWord = true := by decide +kernel
theorem gd_wA_8 : wA_8.all goodWord = true := by decide +kernel
theorem gd_wA_9 : wA_9.all goodWord = true := by decide +kernel
theorem gd_wA_10 : wA_10.all goodWord = true := by decide +kernel
theorem gd_wA_11 : wA_11.all goodWord = true := by decide +kernel
theorem gd_wA_12 : wA_12.all goodWord = true := by decide +kernel
theorem gd_wA_13 : wA_13.all goodWord = true := by decide +kernel
theorem gd_wA_14 : wA_14.all goodWord = true := by decide +kernel
theorem gd_wA_15 : wA_15.all goodWord = true := by decide +kernel
theorem gd_wA_16 : wA_16.all goodWord = true := by decide +kernel
theorem gd_wA_17 : wA_17.all goodWord = true := by decide +kernel
theorem gd_wA_18 : wA_18.all goodWord = true := by decide +kernel
theorem gd_wA_19 : wA_19.all goodWord = true := by decide +kernel
theorem gd_wA_20 : wA_20.all goodWord = true := by decide +kernel
theorem gd_wA_21 : wA_21.all goodWord = true := by decide +kernel
theorem gd_wA_22 : wA_22.all goodWord = true := by decide +kernel
theorem gd_wA_23 : wA_23.all goodWord = true := by decide +kernel
theorem gd_wA_24 : wA_24.all goodWord = true := by decide +kernel
theorem gd_wA_25 : wA_25.all goodWord = true := by decide +kernel
theorem gd_wA_26 : wA_26.all goodWord = true := by decide +kernel
theorem gd_wA_27 : wA_27.all goodWord = true := by decide +kernel
theorem gd_wA_28 : wA_28.all goodWord = true := by decide +kernel
theorem gd_wA_29 : wA_29.all goodWord = true := by decide +kernel
theorem gd_wsX00 : wsX00.all goodWord = true := by decide +kernel
theorem gd_wsX10 : wsX10.all goodWord = true := by decide +kernel
theorem gd_wsX20 : wsX20.all goodWord = true := by decide +kernel
theorem gd_wsX30 : wsX30.all goodWord = true := by decide +kernel
theorem gd_wsX40 : wsX40.all goodWord = true := by decide +kernel
theorem gd_wsX50 : wsX50.all goodWord = true := by decide +kernel
theorem gd_wsX60 : wsX60.all goodWord = true := by decide +kernel
theorem gd_wsX70 : wsX70.all goodWord = true := by decide +kernel
theorem gd_wsX80 : wsX80.all goodWord = true := by decide +kernel
theorem gd_wsX90 : wsX90.all goodWord = true := by decide +kernel
theorem gd_wsX100 : wsX100.all goodWord = true := by decide +kernel
theorem wAll_good : ∀ w ∈ wAll, goodWord w = true := List.forall_mem_append.mpr ⟨fun w h => List.all_eq_true.mp gd_wA_0 w h, List.forall_mem_append.mpr ⟨fun w h => List.all_eq_true.mp gd_wA_1 w h, List.forall_mem_append.mpr ⟨fun w h => List.all_eq_true.mp gd_wA_2 w h, List.forall_mem_append.mpr ⟨fun w h => List.all_eq_true.mp gd_wA_3 w h, List.forall_mem_append.mpr ⟨fun w h => List.all_eq_true.mp gd_wA_4 w h, List.forall_mem_append.mpr ⟨fun w h => List.all_eq_true.mp gd_wA_5 w h, List.forall_mem_append.mpr ⟨fun w h => List.all_eq_true.mp gd_wA_6 w h, List.forall_mem_append.mpr ⟨fun w h => List.all_eq_true.mp gd_wA_7 w h, List.forall_mem_append.mpr ⟨fun w h => List.all_eq_true.mp gd_wA_8 w h, List.forall_mem_append.mpr ⟨fun w h => List.all_eq_true.mp gd_wA_9 w h, List.forall_mem_append.mpr ⟨fun w h => List.all_eq_true.mp gd_wA_10 w h, List.forall_mem_append.mpr ⟨fun w h => List.all_eq_true.mp gd_wA_11 w h, List.forall_mem_append.mpr ⟨fun w h => List.all_eq_true.mp gd_wA_12 w h, List.forall_mem_append.mpr ⟨fun w h => List.all_eq_true.mp gd_wA_13 w h, List.forall_mem_append.mpr ⟨fun w h => List.all_eq_true.mp gd_wA_14 w h, List.forall_mem_append.mpr ⟨fun w h => List.all_eq_true.mp gd_wA_15 w h, List.forall_mem_append.mpr ⟨fun w h => List.all_eq_true.mp gd_wA_16 w h, List.forall_mem_append.mpr ⟨fun w h => List.all_eq_true.mp gd_wA_17 w h, List.forall_mem_append.mpr ⟨fun w h => List.all_eq_true.mp gd_wA_18 w h, List.forall_mem_append.mpr ⟨fun w h => List.all_eq_true.mp gd_wA_19 w h, List.forall_mem_append.mpr ⟨fun w h => List.all_eq_true.mp gd_wA_20 w h, List.forall_mem_append.mpr ⟨fun w h => List.all_eq_true.mp gd_wA_21 w h, List.forall_mem_append.mpr ⟨fun w h => List.all_eq_true.mp gd_wA_22 w h, List.forall_mem_append.mpr ⟨fun w h => List.all_eq_true.mp gd_wA_23 w h, List.forall_mem_append.mpr ⟨fun w h => List.all_eq_true.mp gd_wA_24 w h, List.forall_mem_append.mpr ⟨fun w h => List.all_eq_true.mp gd_wA_25 w h, List.forall_mem_append.mpr ⟨fun w h => List.all_eq_true.mp gd_wA_26 w h, List.forall_mem_append.mpr ⟨fun w h => List.all_eq_true.mp gd_wA_27 w h, List.forall_mem_append.mpr ⟨fun w h => List.all_eq_true.mp gd_wA_28 w h, List.forall_mem_append.mpr ⟨fun w h => List.all_eq_true.mp gd_wA_29 w h, List.forall_mem_append.mpr ⟨fun w h => List.all_eq_true.mp gd_wsX00 w h, List.forall_mem_append.mpr ⟨fun w h => List.all_eq_true.mp gd_wsX10 w h, List.forall_mem_append.mpr ⟨fun w h => List.all_eq_true.mp gd_wsX20 w h, List.forall_mem_append.mpr ⟨fun w h => List.all_eq_true.mp gd_wsX30 w h, List.forall_mem_append.mpr ⟨fun w h => List.all_eq_true.mp gd_wsX40 w h, List.forall_mem_append.mpr ⟨fun w h => List.all_eq_true.mp gd_wsX50 w h, List.forall_mem_append.mpr ⟨fun w h => List.all_eq_true.mp gd_wsX60 w h, List.forall_mem_append.mpr ⟨fun w h => List.all_eq_true.mp gd_wsX70 w h, List.forall_mem_append.mpr ⟨fun w h => List.all_eq_true.mp gd_wsX80 w h, List.forall_mem_append.mpr ⟨fun w h => List.all_eq_true.mp gd_wsX90 w h, fun w h => List.all_eq_true.mp gd_wsX100 w h⟩⟩⟩⟩⟩⟩⟩⟩⟩⟩⟩⟩⟩⟩⟩⟩⟩⟩⟩⟩⟩⟩⟩⟩⟩⟩⟩⟩⟩⟩⟩⟩⟩⟩⟩⟩⟩⟩⟩⟩
theorem gA {y : MethodName} {c : ByteArray} {n : Nat} {ret : Option FieldType} (h : Cond.code y c n ret ∈ wAll) : GoodIn wAll (Cond.code y c n ret :: wAll) := fun w hw => (List.mem_cons.mp hw).elim (fun e => by subst e; exact ⟨h, good_of_word (wAll_good _ h)⟩) (fun h => ⟨h, good_of_word (wAll_good w h)⟩)
