def wA_0 : List Cond := [Cond.methodLink RX5 3 objectInit, Cond.instanceMethod objectInit, Cond.code objectInit ⟨#[0xb1]⟩ 1 none, Cond.arrayClass .long, Cond.fieldLink RX5 9 "CardBowl$Slot" "numbers" "[J", Cond.code yX5_init cX5_init 1 none, Cond.methodLink RX7 3 objectInit, Cond.fieldLink RX7 11 "CardBowl$Town" "introducers" "I", Cond.arrayClass .int, Cond.fieldLink RX7 15 "CardBowl$Town" "x" "[I", Cond.fieldLink RX7 19 "CardBowl$Town" "y" "[I", Cond.fieldLink RX7 22 "CardBowl$Town" "rank" "[I", Cond.fieldLink RX7 25 "CardBowl$Town" "weekday" "[I", Cond.fieldLink RX7 28 "CardBowl$Town" "from" "[I", Cond.fieldLink RX7 31 "CardBowl$Town" "to" "[I", Cond.fieldLink RX7 34 "CardBowl$Town" "came" "[I", Cond.fieldLink RX7 37 "CardBowl$Town" "bride" "[I", Cond.fieldLink RX7 40 "CardBowl$Town" "told" "[I", Cond.code yX7_init cX7_init 1 none, Cond.methodLink RX0 3 objectInit, Cond.fieldLink RX0 9 "CardBowl$Code" "paying" "[I", Cond.fieldLink RX0 15 "CardBowl$Code" "kind" "[I", Cond.fieldLink RX0 18 "CardBowl$Code" "within" "[I", Cond.fieldLink RX0 21 "CardBowl$Code" "start" "[I"]
def wA_1 : List Cond := [Cond.fieldLink RX0 24 "CardBowl$Code" "stop" "[I", Cond.fieldLink RX0 27 "CardBowl$Code" "tests" "[I", Cond.fieldLink RX0 30 "CardBowl$Code" "facts" "[I", Cond.code yX0_init cX0_init 1 none, Cond.methodLink RX1 3 objectInit, Cond.fieldLink RX1 9 "CardBowl$Debts" "debtor" "[I", Cond.fieldLink RX1 15 "CardBowl$Debts" "creditor" "[I", Cond.fieldLink RX1 18 "CardBowl$Debts" "kind" "[I", Cond.fieldLink RX1 21 "CardBowl$Debts" "due" "[I", Cond.fieldLink RX1 24 "CardBowl$Debts" "came" "[I", Cond.fieldLink RX1 27 "CardBowl$Debts" "open" "[I", Cond.fieldLink RX1 30 "CardBowl$Debts" "kinds" "[I", Cond.code yX1_init cX1_init 1 none, Cond.methodLink RX2 3 objectInit, Cond.fieldLink RX2 9 "CardBowl$Deeds" "who" "[I", Cond.fieldLink RX2 15 "CardBowl$Deeds" "whom" "[I", Cond.fieldLink RX2 18 "CardBowl$Deeds" "what" "[I", Cond.fieldLink RX2 21 "CardBowl$Deeds" "day" "[I", Cond.code yX2_init cX2_init 1 none, Cond.methodLink RX4 5 objectInit, Cond.fieldLink RX4 11 "CardBowl$Rounds" "order" "[I", Cond.fieldLink RX4 15 "CardBowl$Rounds" "owner" "I", Cond.fieldLink RX4 19 "CardBowl$Rounds" "weekday" "I", Cond.fieldLink RX4 22 "CardBowl$Rounds" "spot" "[I"]
def wA_2 : List Cond := [Cond.fieldLink RX4 25 "CardBowl$Rounds" "deadline" "[I", Cond.fieldLink RX4 28 "CardBowl$Rounds" "opens" "[I", Cond.fieldLink RX4 31 "CardBowl$Rounds" "closes" "[I", Cond.fieldLink RX4 34 "CardBowl$Rounds" "stays" "[I", Cond.fieldLink RX4 37 "CardBowl$Rounds" "apart" "[I", Cond.fieldLink RX4 40 "CardBowl$Rounds" "minute" "[I", Cond.fieldLink RX4 43 "CardBowl$Rounds" "soonest" "[I", Cond.fieldLink RX4 46 "CardBowl$Rounds" "sums" "[I", Cond.code yX4_init cX4_init 1 none, Cond.methodLink RX8 5 objectInit, Cond.fieldLink RX8 11 "CardBowl$Ways" "calls" "[I", Cond.fieldLink RX8 15 "CardBowl$Ways" "caller" "I", Cond.fieldLink RX8 19 "CardBowl$Ways" "goal" "I", Cond.fieldLink RX8 22 "CardBowl$Ways" "house" "[I", Cond.fieldLink RX8 25 "CardBowl$Ways" "friends" "[I", Cond.fieldLink RX8 28 "CardBowl$Ways" "links" "[I", Cond.fieldLink RX8 31 "CardBowl$Ways" "queue" "[I", Cond.fieldLink RX8 34 "CardBowl$Ways" "latest" "[I", Cond.code yX8_init cX8_init 1 none, Cond.methodLink RX3 3 objectInit, Cond.classLink RX3 9 RX7, Cond.instantiable RX7 12, Cond.initialized RX7, Cond.instanceMethod yX7_init]
def wA_3 : List Cond := [Cond.fieldLink RX3 12 "CardBowl$Reader" "town" "LCardBowl$Town;", Cond.classLink RX3 18 RX0, Cond.instantiable RX0 10, Cond.initialized RX0, Cond.instanceMethod yX0_init, Cond.fieldLink RX3 21 "CardBowl$Reader" "code" "LCardBowl$Code;", Cond.fieldLink RX3 25 "CardBowl$Reader" "place" "I", Cond.code yX3_init cX3_init 1 none, Cond.methodLink RX6 3 objectInit, Cond.classLink RX6 9 RX7, Cond.fieldLink RX6 12 "CardBowl$State" "town" "LCardBowl$Town;", Cond.classLink RX6 18 RX0, Cond.fieldLink RX6 21 "CardBowl$State" "code" "LCardBowl$Code;", Cond.classLink RX6 25 RX1, Cond.instantiable RX1 8, Cond.initialized RX1, Cond.instanceMethod yX1_init, Cond.fieldLink RX6 28 "CardBowl$State" "debts" "LCardBowl$Debts;", Cond.classLink RX6 32 RX2, Cond.instantiable RX2 5, Cond.initialized RX2, Cond.instanceMethod yX2_init, Cond.fieldLink RX6 35 "CardBowl$State" "deeds" "LCardBowl$Deeds;", Cond.fieldLink RX6 39 "CardBowl$State" "knows" "[I"]
def wA_4 : List Cond := [Cond.fieldLink RX6 43 "CardBowl$State" "follows" "[I", Cond.code yX6_init cX6_init 1 none, Cond.methodLink RX9 1 objectInit, Cond.arrayClass .byte, Cond.fieldLink RX9 9 "CardBowl" "tape" "[B", Cond.classLink RX9 13 RX3, Cond.instantiable RX3 10, Cond.initialized RX3, Cond.instanceMethod yX3_init, Cond.fieldLink RX9 16 "CardBowl" "reader" "LCardBowl$Reader;", Cond.classLink RX9 20 RX6, Cond.instantiable RX6 8, Cond.initialized RX6, Cond.instanceMethod yX6_init, Cond.fieldLink RX9 23 "CardBowl" "state" "LCardBowl$State;", Cond.fieldLink RX9 27 "CardBowl" "images" "[LCardBowl$State;", Cond.classLink RX9 31 RX5, Cond.fieldLink RX9 33 "CardBowl" "slots" "[LCardBowl$Slot;", Cond.classLink RX9 37 RX4, Cond.instantiable RX4 17, Cond.initialized RX4, Cond.instanceMethod yX4_init, Cond.fieldLink RX9 40 "CardBowl" "rounds" "LCardBowl$Rounds;", Cond.classLink RX9 44 RX8]
def wA_5 : List Cond := [Cond.instantiable RX8 11, Cond.initialized RX8, Cond.instanceMethod yX8_init, Cond.fieldLink RX9 47 "CardBowl" "ways" "LCardBowl$Ways;", Cond.classLink RX9 51 RX1, Cond.fieldLink RX9 54 "CardBowl" "otherDebts" "LCardBowl$Debts;", Cond.fieldLink RX9 58 "CardBowl" "otherKnows" "[I", Cond.instantiable RX5 4, Cond.initialized RX5, Cond.instanceMethod yX5_init, Cond.code yX9_init cX9_init 2 none, Cond.methodLink RX10 7 objectInit, Cond.fieldLink RX10 13 "CardBowlModel" "world" "[I", Cond.fieldLink RX10 17 "CardBowlModel" "images" "[I", Cond.arrayClass .boolean, Cond.fieldLink RX10 20 "CardBowlModel" "hasImage" "[Z", Cond.fieldLink RX10 24 "CardBowlModel" "tape" "[B", Cond.fieldLink RX10 28 "CardBowlModel" "five" "[I", Cond.fieldLink RX10 31 "CardBowlModel" "faultPlace" "I", Cond.fieldLink RX10 34 "CardBowlModel" "fresh" "[I", Cond.fieldLink RX10 37 "CardBowlModel" "parts" "[I", Cond.fieldLink RX10 40 "CardBowlModel" "houses" "[I", Cond.fieldLink RX10 43 "CardBowlModel" "worthOf" "[I", Cond.fieldLink RX10 46 "CardBowlModel" "byCall" "[Z"]
def wA_6 : List Cond := [Cond.fieldLink RX10 49 "CardBowlModel" "over" "[I", Cond.fieldLink RX10 52 "CardBowlModel" "row" "[I", Cond.fieldLink RX10 55 "CardBowlModel" "tenDebts" "[I", Cond.fieldLink RX10 58 "CardBowlModel" "fewestBy" "[I", Cond.fieldLink RX10 61 "CardBowlModel" "covered" "[I", Cond.constant RX10 64 (65536), Cond.fieldLink RX10 65 "CardBowlModel" "queue" "[I", Cond.fieldLink RX10 68 "CardBowlModel" "cameBy" "[I", Cond.fieldLink RX10 71 "CardBowlModel" "parent" "[I", Cond.fieldLink RX10 74 "CardBowlModel" "met" "[Z", Cond.fieldLink RX10 77 "CardBowlModel" "calls" "[I", Cond.fieldLink RX10 80 "CardBowlModel" "calledOn" "[I", Cond.fieldLink RX10 83 "CardBowlModel" "saved" "[I", Cond.fieldLink RX10 86 "CardBowlModel" "many" "[I", Cond.fieldLink RX10 89 "CardBowlModel" "width" "[I", Cond.fieldLink RX10 92 "CardBowlModel" "numbers" "[J", Cond.fieldLink RX10 96 "CardBowlModel" "moving" "[J", Cond.code yX10_init cX10_init 1 none, Cond.code yX9_isSlot cX9_isSlot 1 (some .boolean), Cond.code yX9_isImage cX9_isImage 1 (some .boolean), Cond.code yX10_in cX10_in 6 (some .boolean), Cond.constantLong RX10 313 (3), Cond.initialized RX10, Cond.methodLink RX10 101 yX10_in]
def wA_7 : List Cond := [Cond.static yX10_in, Cond.code yX10_isSlot cX10_isSlot 1 (some .boolean), Cond.fieldLink RX7 43 "CardBowl$Town" "houses" "I", Cond.code yX7_has cX7_has 2 (some .boolean), Cond.methodLink RX7 61 yX7_has, Cond.instanceMethod yX7_has, Cond.selects RX7 yX7_has yX7_has, Cond.code yX7_hasPair cX7_hasPair 3 (some .boolean), Cond.fieldLink RX9 93 "CardBowl$State" "town" "LCardBowl$Town;", Cond.methodLink RX9 126 yX7_hasPair, Cond.instanceMethod yX7_hasPair, Cond.selects RX7 yX7_hasPair yX7_hasPair, Cond.code yX9_isDeed cX9_isDeed 4 (some .boolean), Cond.methodLink RX9 158 yX7_has, Cond.code yX9_isOuting cX9_isOuting 3 (some .boolean), Cond.initialized RX9, Cond.methodLink RX9 105 yX9_isDeed, Cond.instanceMethod yX9_isDeed, Cond.selects RX9 yX9_isDeed yX9_isDeed, Cond.code yX9_bars cX9_bars 4 (some .int), Cond.code yX9_does cX9_does 4 (some .int), Cond.code yX9_meet cX9_meet 3 (some .int), Cond.code yX9_known cX9_known 3 (some .int), Cond.code yX9_debts cX9_debts 2 (some .int)]
def wA_8 : List Cond := [Cond.code yX9_slights cX9_slights 2 (some .int), Cond.code yX9_owes cX9_owes 4 (some .int), Cond.methodLink RX9 191 yX9_isOuting, Cond.instanceMethod yX9_isOuting, Cond.selects RX9 yX9_isOuting yX9_isOuting, Cond.code yX9_worth cX9_worth 3 (some .int), Cond.code yX9_round cX9_round 4 (some .int), Cond.code yX9_over cX9_over 3 (some .int), Cond.methodLink RX9 134 yX9_isSlot, Cond.static yX9_isSlot, Cond.code yX9_may cX9_may 5 (some .int), Cond.code yX9_fewest cX9_fewest 2 (some .int), Cond.code yX9_lost cX9_lost 2 (some .int), Cond.code yX9_soon cX9_soon 3 (some .int), Cond.code yX9_path cX9_path 4 (some .int), Cond.code yX9_reach cX9_reach 2 (some .int), Cond.code yX9_drop cX9_drop 5 (some .int), Cond.code yX9_tie cX9_tie 3 (some .int), Cond.code yX9_ring cX9_ring 2 (some .int), Cond.code yX9_debt cX9_debt 5 (some .int), Cond.fieldLink RX9 94 "CardBowl$Town" "houses" "I", Cond.code yX9_first cX9_first 6 (some .int), Cond.constant RX9 248 (-2000000000), Cond.code yX9_house cX9_house 3 (some .int)]
def wA_9 : List Cond := [Cond.fieldLink RX9 63 "CardBowl" "tapeSize" "I", Cond.code yX9_end cX9_end 2 (some .int), Cond.fieldLink RX9 99 "CardBowl$Reader" "place" "I", Cond.fieldLink RX9 75 "CardBowl$Reader" "fault" "I", Cond.code yX9_fault cX9_fault 2 (some .int), Cond.fieldLink RX9 330 "CardBowl$Rounds" "planned" "Z", Cond.fieldLink RX9 333 "CardBowl$Ways" "sought" "Z", Cond.code yX9_forget cX9_forget 1 none, Cond.fieldLink RX9 102 "CardBowl$State" "day" "I", Cond.methodLink RX9 90 yX9_forget, Cond.instanceMethod yX9_forget, Cond.selects RX9 yX9_forget yX9_forget, Cond.code yX9_days cX9_days 2 (some .int), Cond.methodLink RX9 271 yX9_isImage, Cond.static yX9_isImage, Cond.code yX9_beside cX9_beside 3 (some .int), Cond.code yX9_back cX9_back 3 (some .int), Cond.fieldLink RX9 138 "CardBowl$Slot" "filled" "Z", Cond.code yX9_done cX9_done 9 (some .int), Cond.code yX9_write cX9_write 6 (some .int), Cond.code yX9_paste cX9_paste 8 (some .int), Cond.code yJ7_fill_53178 cJ7_fill_53178 4 none, Cond.code yJ7_fill_d0a16 cJ7_fill_d0a16 5 none, Cond.fieldLink RX5 15 "CardBowl$Slot" "filled" "Z"]
def wA_10 : List Cond := [Cond.fieldLink RX5 19 "CardBowl$Slot" "width" "I", Cond.fieldLink RX5 23 "CardBowl$Slot" "size" "I", Cond.initialized RJ7, Cond.methodLink RX5 26 yJ7_fill_d0a16, Cond.static yJ7_fill_d0a16, Cond.code yX5_lay cX5_lay 3 none, Cond.methodLink RX9 306 yX5_lay, Cond.instanceMethod yX5_lay, Cond.selects RX5 yX5_lay yX5_lay, Cond.code yX9_row cX9_row 4 (some .int), Cond.code yX9_feedNumber cX9_feedNumber 3 none, Cond.methodLink RX9 67 yX9_feedNumber, Cond.instanceMethod yX9_feedNumber, Cond.selects RX9 yX9_feedNumber yX9_feedNumber, Cond.code yX9_feed cX9_feed 6 (some .int), Cond.fieldLink RX6 56 "CardBowl$Deeds" "size" "I", Cond.code yX6_followCalls cX6_followCalls 3 none, Cond.methodLink RX9 237 yX6_followCalls, Cond.instanceMethod yX6_followCalls, Cond.selects RX6 yX6_followCalls yX6_followCalls, Cond.code yX9_rings cX9_rings 4 (some .int), Cond.fieldLink RX1 33 "CardBowl$Debts" "size" "I", Cond.code yX1_overdue cX1_overdue 4 (some .int), Cond.code yX9_filledSlots cX9_filledSlots 3 (some .int)]
def wA_11 : List Cond := [Cond.fieldLink RX9 274 "CardBowl$State" "code" "LCardBowl$Code;", Cond.fieldLink RX9 280 "CardBowl$Code" "lines" "I", Cond.fieldLink RX9 161 "CardBowl$State" "debts" "LCardBowl$Debts;", Cond.fieldLink RX9 279 "CardBowl$Debts" "size" "I", Cond.methodLink RX9 285 yX1_overdue, Cond.instanceMethod yX1_overdue, Cond.selects RX1 yX1_overdue yX1_overdue, Cond.fieldLink RX9 113 "CardBowl$State" "deeds" "LCardBowl$Deeds;", Cond.fieldLink RX9 288 "CardBowl$Deeds" "size" "I", Cond.fieldLink RX9 289 "CardBowl$State" "paid" "I", Cond.fieldLink RX9 292 "CardBowl$Town" "introducers" "I", Cond.fieldLink RX9 295 "CardBowl$Town" "fresh" "I", Cond.methodLink RX9 298 yX9_filledSlots, Cond.instanceMethod yX9_filledSlots, Cond.selects RX9 yX9_filledSlots yX9_filledSlots, Cond.code yX9_count cX9_count 2 (some .int), Cond.fieldLink RX7 46 "CardBowl$Town" "fresh" "I", Cond.methodLink RX7 49 yJ7_fill_53178, Cond.static yJ7_fill_53178, Cond.code yX7_clear cX7_clear 1 none, Cond.fieldLink RX0 33 "CardBowl$Code" "lines" "I", Cond.fieldLink RX0 37 "CardBowl$Code" "used" "I", Cond.code yX0_clear cX0_clear 1 none, Cond.fieldLink RX3 42 "CardBowl$Reader" "next" "I"]
def wA_12 : List Cond := [Cond.fieldLink RX3 39 "CardBowl$Reader" "size" "I", Cond.fieldLink RX3 179 "CardBowl$Reader" "begin" "I", Cond.fieldLink RX3 55 "CardBowl$Reader" "kind" "I", Cond.code yX3_advance cX3_advance 1 none, Cond.fieldLink RX3 29 "CardBowl$Reader" "text" "[B", Cond.methodLink RX3 33 Lib.Math.min.name, Cond.static Lib.Math.min.name, Cond.initialized "java/lang/Math", Cond.code Lib.Math.min.name Lib.Math.min.code 2 (some .int), Cond.fieldLink RX3 45 "CardBowl$Reader" "fault" "I", Cond.methodLink RX3 48 yX7_clear, Cond.instanceMethod yX7_clear, Cond.selects RX7 yX7_clear yX7_clear, Cond.methodLink RX3 51 yX0_clear, Cond.instanceMethod yX0_clear, Cond.selects RX0 yX0_clear yX0_clear, Cond.methodLink RX3 52 yX3_advance, Cond.instanceMethod yX3_advance, Cond.selects RX3 yX3_advance yX3_advance, Cond.code yX3_read cX3_read 5 none, Cond.methodLink RX7 55 arraycopyName, Cond.native arraycopyName, Cond.static arraycopyName, Cond.initialized "java/lang/System"]
def wA_13 : List Cond := [Cond.code yX7_copy cX7_copy 2 none, Cond.methodLink RX0 40 arraycopyName, Cond.code yX0_copy cX0_copy 2 none, Cond.methodLink RX1 37 yJ7_fill_53178, Cond.code yX1_clear cX1_clear 1 none, Cond.methodLink RX1 43 arraycopyName, Cond.code yX1_copy cX1_copy 2 none, Cond.fieldLink RX2 24 "CardBowl$Deeds" "size" "I", Cond.methodLink RX2 28 arraycopyName, Cond.code yX2_copy cX2_copy 2 none, Cond.methodLink RX6 46 yX7_copy, Cond.instanceMethod yX7_copy, Cond.selects RX7 yX7_copy yX7_copy, Cond.methodLink RX6 50 yX0_copy, Cond.instanceMethod yX0_copy, Cond.selects RX0 yX0_copy yX0_copy, Cond.methodLink RX6 53 yX1_clear, Cond.instanceMethod yX1_clear, Cond.selects RX1 yX1_clear yX1_clear, Cond.fieldLink RX6 60 "CardBowl$Town" "told" "[I", Cond.methodLink RX6 63 arraycopyName, Cond.fieldLink RX6 69 "CardBowl$State" "day" "I", Cond.fieldLink RX6 72 "CardBowl$State" "paid" "I", Cond.code yX6_begin cX6_begin 3 none]
def wA_14 : List Cond := [Cond.methodLink RX9 71 yX3_read, Cond.instanceMethod yX3_read, Cond.selects RX3 yX3_read yX3_read, Cond.fieldLink RX9 78 "CardBowl$Reader" "town" "LCardBowl$Town;", Cond.fieldLink RX9 82 "CardBowl$Reader" "code" "LCardBowl$Code;", Cond.methodLink RX9 86 yX6_begin, Cond.instanceMethod yX6_begin, Cond.selects RX6 yX6_begin yX6_begin, Cond.code yX9_town cX9_town 1 (some .int), Cond.methodLink RX6 75 yX1_copy, Cond.instanceMethod yX1_copy, Cond.selects RX1 yX1_copy yX1_copy, Cond.methodLink RX6 78 yX2_copy, Cond.instanceMethod yX2_copy, Cond.selects RX2 yX2_copy yX2_copy, Cond.code yX6_copy cX6_copy 2 none, Cond.methodLink RX9 302 yX6_copy, Cond.instanceMethod yX6_copy, Cond.selects RX6 yX6_copy yX6_copy, Cond.code yX9_keep cX9_keep 3 (some .int), Cond.code yX10_isHouse cX10_isHouse 2 (some .boolean), Cond.methodLink RX10 105 yX10_isHouse, Cond.instanceMethod yX10_isHouse, Cond.selects RX10 yX10_isHouse yX10_isHouse]
def wA_15 : List Cond := [Cond.code yX10_areTwo cX10_areTwo 3 (some .boolean), Cond.code yX10_isRound cX10_isRound 3 (some .boolean), Cond.methodLink RX10 315 yX10_areTwo, Cond.instanceMethod yX10_areTwo, Cond.selects RX10 yX10_areTwo yX10_areTwo, Cond.code yX10_bars cX10_bars 4 (some .int), Cond.code yX10_does cX10_does 4 (some .int), Cond.code yX10_meet cX10_meet 4 (some .int), Cond.code yX10_known cX10_known 3 (some .int), Cond.code yX10_debts cX10_debts 2 (some .int), Cond.code yX10_slights cX10_slights 2 (some .int), Cond.code yX10_owes cX10_owes 6 (some .int), Cond.methodLink RX10 429 yX10_isRound, Cond.instanceMethod yX10_isRound, Cond.selects RX10 yX10_isRound yX10_isRound, Cond.code yX10_worth cX10_worth 3 (some .int), Cond.code yX10_round cX10_round 5 (some .int), Cond.code yX10_over cX10_over 3 (some .int), Cond.methodLink RX10 371 yX10_isSlot, Cond.static yX10_isSlot, Cond.code yX10_may cX10_may 11 (some .int), Cond.code yX10_fewest cX10_fewest 7 (some .int), Cond.code yX10_lost cX10_lost 6 (some .int), Cond.code yX10_soon cX10_soon 3 (some .int)]
def wA_16 : List Cond := [Cond.code yX10_path cX10_path 4 (some .int), Cond.code yX10_reach cX10_reach 2 (some .int), Cond.code yX10_drop cX10_drop 5 (some .int), Cond.code yX10_tie cX10_tie 3 (some .int), Cond.code yX10_ring cX10_ring 2 (some .int), Cond.code yX10_debt cX10_debt 5 (some .int), Cond.code yX10_first cX10_first 5 (some .int), Cond.constant RX10 470 (-2000000000), Cond.code yX10_house cX10_house 5 (some .int), Cond.fieldLink RX10 109 "CardBowlModel" "taped" "I", Cond.code yX10_end cX10_end 2 (some .int), Cond.fieldLink RX10 145 "CardBowlModel" "faultKind" "I", Cond.code yX10_fault cX10_fault 2 (some .int), Cond.code yX10_today cX10_today 1 (some .int), Cond.constantLong RX10 289 (60), Cond.methodLink RX10 291 yX10_today, Cond.instanceMethod yX10_today, Cond.selects RX10 yX10_today yX10_today, Cond.code yX10_days cX10_days 2 (some .int), Cond.constantLong RX10 99 (2), Cond.code yX10_beside cX10_beside 5 (some .int), Cond.code yX10_back cX10_back 3 (some .int), Cond.code yX10_done cX10_done 11 (some .int), Cond.code yX10_write cX10_write 5 (some .int)]
def wA_17 : List Cond := [Cond.code yX10_paste cX10_paste 7 (some .int), Cond.code yX10_count cX10_count 4 (some .int), Cond.code yX10_feed cX10_feed 7 (some .int), Cond.code yX10_row cX10_row 5 (some .int), Cond.code yX10_keep cX10_keep 3 (some .int), Cond.code yX10_callsAll cX10_callsAll 2 none, Cond.methodLink RX10 462 yX10_callsAll, Cond.instanceMethod yX10_callsAll, Cond.selects RX10 yX10_callsAll yX10_callsAll, Cond.code yX10_rings cX10_rings 4 (some .int), Cond.fieldLink RX10 112 "CardBowlModel" "size" "I", Cond.code yX10_see cX10_see 2 (some .int), Cond.code yX10_good cX10_good 1 (some .boolean), Cond.fieldLink RX10 115 "CardBowlModel" "at" "I", Cond.methodLink RX10 118 yX10_see, Cond.instanceMethod yX10_see, Cond.selects RX10 yX10_see yX10_see, Cond.fieldLink RX10 122 "CardBowlModel" "from" "I", Cond.fieldLink RX10 125 "CardBowlModel" "token" "I", Cond.code yX10_advance cX10_advance 2 none, Cond.code yX10_ofHouse cX10_ofHouse 3 (some .int), Cond.methodLink RX10 166 yX10_advance, Cond.instanceMethod yX10_advance, Cond.selects RX10 yX10_advance yX10_advance]
def wA_18 : List Cond := [Cond.methodLink RX10 148 yX10_good, Cond.instanceMethod yX10_good, Cond.selects RX10 yX10_good yX10_good, Cond.methodLink RX10 286 yX10_ofHouse, Cond.instanceMethod yX10_ofHouse, Cond.selects RX10 yX10_ofHouse yX10_ofHouse, Cond.code yX10_town cX10_town 2 (some .int), Cond.classLink RL 7 RX9, Cond.instantiable RX9 10, Cond.methodLink RL 9 yX9_init, Cond.instanceMethod yX9_init, Cond.classLink RL 10 RX10, Cond.instantiable RX10 41, Cond.methodLink RL 12 yX10_init, Cond.instanceMethod yX10_init, Cond.methodLink RL 13 yX9_feed, Cond.instanceMethod yX9_feed, Cond.selects RX9 yX9_feed yX9_feed, Cond.methodLink RL 17 yX10_feed, Cond.instanceMethod yX10_feed, Cond.selects RX10 yX10_feed yX10_feed, Cond.methodLink RL 18 yX9_end, Cond.instanceMethod yX9_end, Cond.selects RX9 yX9_end yX9_end]
def wA_19 : List Cond := [Cond.methodLink RL 22 yX10_end, Cond.instanceMethod yX10_end, Cond.selects RX10 yX10_end yX10_end, Cond.methodLink RL 23 yX9_town, Cond.instanceMethod yX9_town, Cond.selects RX9 yX9_town yX9_town, Cond.methodLink RL 27 yX10_town, Cond.instanceMethod yX10_town, Cond.selects RX10 yX10_town yX10_town, Cond.methodLink RL 28 yX9_fault, Cond.instanceMethod yX9_fault, Cond.selects RX9 yX9_fault yX9_fault, Cond.methodLink RL 31 yX10_fault, Cond.instanceMethod yX10_fault, Cond.selects RX10 yX10_fault yX10_fault, Cond.methodLink RL 32 yX9_days, Cond.instanceMethod yX9_days, Cond.selects RX9 yX9_days yX9_days, Cond.methodLink RL 35 yX10_days, Cond.instanceMethod yX10_days, Cond.selects RX10 yX10_days yX10_days, Cond.methodLink RL 36 yX9_bars, Cond.instanceMethod yX9_bars, Cond.selects RX9 yX9_bars yX9_bars]
def wA_20 : List Cond := [Cond.methodLink RL 40 yX10_bars, Cond.instanceMethod yX10_bars, Cond.selects RX10 yX10_bars yX10_bars, Cond.methodLink RL 41 yX9_does, Cond.instanceMethod yX9_does, Cond.selects RX9 yX9_does yX9_does, Cond.methodLink RL 44 yX10_does, Cond.instanceMethod yX10_does, Cond.selects RX10 yX10_does yX10_does, Cond.methodLink RL 45 yX9_meet, Cond.instanceMethod yX9_meet, Cond.selects RX9 yX9_meet yX9_meet, Cond.methodLink RL 49 yX10_meet, Cond.instanceMethod yX10_meet, Cond.selects RX10 yX10_meet yX10_meet, Cond.methodLink RL 50 yX9_done, Cond.instanceMethod yX9_done, Cond.selects RX9 yX9_done yX9_done, Cond.methodLink RL 53 yX10_done, Cond.instanceMethod yX10_done, Cond.selects RX10 yX10_done yX10_done, Cond.methodLink RL 54 yX9_known, Cond.instanceMethod yX9_known, Cond.selects RX9 yX9_known yX9_known]
def wA_21 : List Cond := [Cond.methodLink RL 57 yX10_known, Cond.instanceMethod yX10_known, Cond.selects RX10 yX10_known yX10_known, Cond.methodLink RL 58 yX9_debts, Cond.instanceMethod yX9_debts, Cond.selects RX9 yX9_debts yX9_debts, Cond.methodLink RL 61 yX10_debts, Cond.instanceMethod yX10_debts, Cond.selects RX10 yX10_debts yX10_debts, Cond.methodLink RL 62 yX9_debt, Cond.instanceMethod yX9_debt, Cond.selects RX9 yX9_debt yX9_debt, Cond.methodLink RL 65 yX10_debt, Cond.instanceMethod yX10_debt, Cond.selects RX10 yX10_debt yX10_debt, Cond.methodLink RL 66 yX9_slights, Cond.instanceMethod yX9_slights, Cond.selects RX9 yX9_slights yX9_slights, Cond.methodLink RL 69 yX10_slights, Cond.instanceMethod yX10_slights, Cond.selects RX10 yX10_slights yX10_slights, Cond.methodLink RL 70 yX9_first, Cond.instanceMethod yX9_first, Cond.selects RX9 yX9_first yX9_first]
def wA_22 : List Cond := [Cond.methodLink RL 73 yX10_first, Cond.instanceMethod yX10_first, Cond.selects RX10 yX10_first yX10_first, Cond.methodLink RL 74 yX9_owes, Cond.instanceMethod yX9_owes, Cond.selects RX9 yX9_owes yX9_owes, Cond.methodLink RL 77 yX10_owes, Cond.instanceMethod yX10_owes, Cond.selects RX10 yX10_owes yX10_owes, Cond.methodLink RL 78 yX9_worth, Cond.instanceMethod yX9_worth, Cond.selects RX9 yX9_worth yX9_worth, Cond.methodLink RL 81 yX10_worth, Cond.instanceMethod yX10_worth, Cond.selects RX10 yX10_worth yX10_worth, Cond.methodLink RL 82 yX9_round, Cond.instanceMethod yX9_round, Cond.selects RX9 yX9_round yX9_round, Cond.methodLink RL 85 yX10_round, Cond.instanceMethod yX10_round, Cond.selects RX10 yX10_round yX10_round, Cond.methodLink RL 86 yX9_over, Cond.instanceMethod yX9_over, Cond.selects RX9 yX9_over yX9_over]
def wA_23 : List Cond := [Cond.methodLink RL 89 yX10_over, Cond.instanceMethod yX10_over, Cond.selects RX10 yX10_over yX10_over, Cond.methodLink RL 90 yX9_may, Cond.instanceMethod yX9_may, Cond.selects RX9 yX9_may yX9_may, Cond.methodLink RL 93 yX10_may, Cond.instanceMethod yX10_may, Cond.selects RX10 yX10_may yX10_may, Cond.methodLink RL 94 yX9_fewest, Cond.instanceMethod yX9_fewest, Cond.selects RX9 yX9_fewest yX9_fewest, Cond.methodLink RL 97 yX10_fewest, Cond.instanceMethod yX10_fewest, Cond.selects RX10 yX10_fewest yX10_fewest, Cond.methodLink RL 98 yX9_lost, Cond.instanceMethod yX9_lost, Cond.selects RX9 yX9_lost yX9_lost, Cond.methodLink RL 101 yX10_lost, Cond.instanceMethod yX10_lost, Cond.selects RX10 yX10_lost yX10_lost, Cond.methodLink RL 102 yX9_soon, Cond.instanceMethod yX9_soon, Cond.selects RX9 yX9_soon yX9_soon]
def wA_24 : List Cond := [Cond.methodLink RL 105 yX10_soon, Cond.instanceMethod yX10_soon, Cond.selects RX10 yX10_soon yX10_soon, Cond.methodLink RL 106 yX9_path, Cond.instanceMethod yX9_path, Cond.selects RX9 yX9_path yX9_path, Cond.methodLink RL 109 yX10_path, Cond.instanceMethod yX10_path, Cond.selects RX10 yX10_path yX10_path, Cond.methodLink RL 110 yX9_reach, Cond.instanceMethod yX9_reach, Cond.selects RX9 yX9_reach yX9_reach, Cond.methodLink RL 113 yX10_reach, Cond.instanceMethod yX10_reach, Cond.selects RX10 yX10_reach yX10_reach, Cond.methodLink RL 114 yX9_drop, Cond.instanceMethod yX9_drop, Cond.selects RX9 yX9_drop yX9_drop, Cond.methodLink RL 117 yX10_drop, Cond.instanceMethod yX10_drop, Cond.selects RX10 yX10_drop yX10_drop, Cond.methodLink RL 118 yX9_tie, Cond.instanceMethod yX9_tie, Cond.selects RX9 yX9_tie yX9_tie]
def wA_25 : List Cond := [Cond.methodLink RL 121 yX10_tie, Cond.instanceMethod yX10_tie, Cond.selects RX10 yX10_tie yX10_tie, Cond.methodLink RL 122 yX9_rings, Cond.instanceMethod yX9_rings, Cond.selects RX9 yX9_rings yX9_rings, Cond.methodLink RL 125 yX10_rings, Cond.instanceMethod yX10_rings, Cond.selects RX10 yX10_rings yX10_rings, Cond.methodLink RL 126 yX9_ring, Cond.instanceMethod yX9_ring, Cond.selects RX9 yX9_ring yX9_ring, Cond.methodLink RL 129 yX10_ring, Cond.instanceMethod yX10_ring, Cond.selects RX10 yX10_ring yX10_ring, Cond.methodLink RL 130 yX9_house, Cond.instanceMethod yX9_house, Cond.selects RX9 yX9_house yX9_house, Cond.methodLink RL 133 yX10_house, Cond.instanceMethod yX10_house, Cond.selects RX10 yX10_house yX10_house, Cond.methodLink RL 134 yX9_beside, Cond.instanceMethod yX9_beside, Cond.selects RX9 yX9_beside yX9_beside]
def wA_26 : List Cond := [Cond.methodLink RL 137 yX10_beside, Cond.instanceMethod yX10_beside, Cond.selects RX10 yX10_beside yX10_beside, Cond.methodLink RL 138 yX9_count, Cond.instanceMethod yX9_count, Cond.selects RX9 yX9_count yX9_count, Cond.methodLink RL 141 yX10_count, Cond.instanceMethod yX10_count, Cond.selects RX10 yX10_count yX10_count, Cond.methodLink RL 142 yX9_keep, Cond.instanceMethod yX9_keep, Cond.selects RX9 yX9_keep yX9_keep, Cond.methodLink RL 145 yX10_keep, Cond.instanceMethod yX10_keep, Cond.selects RX10 yX10_keep yX10_keep, Cond.methodLink RL 146 yX9_back, Cond.instanceMethod yX9_back, Cond.selects RX9 yX9_back yX9_back, Cond.methodLink RL 149 yX10_back, Cond.instanceMethod yX10_back, Cond.selects RX10 yX10_back yX10_back, Cond.methodLink RL 150 yX9_row, Cond.instanceMethod yX9_row, Cond.selects RX9 yX9_row yX9_row]
def wA_27 : List Cond := [Cond.methodLink RL 153 yX10_row, Cond.instanceMethod yX10_row, Cond.selects RX10 yX10_row yX10_row, Cond.constantLong RL 154 (4294967295), Cond.methodLink RL 156 yX9_write, Cond.instanceMethod yX9_write, Cond.selects RX9 yX9_write yX9_write, Cond.methodLink RL 160 yX10_write, Cond.instanceMethod yX10_write, Cond.selects RX10 yX10_write yX10_write, Cond.methodLink RL 161 yX9_paste, Cond.instanceMethod yX9_paste, Cond.selects RX9 yX9_paste yX9_paste, Cond.methodLink RL 164 yX10_paste, Cond.instanceMethod yX10_paste, Cond.selects RX10 yX10_paste yX10_paste]
def wAll : List Cond := wA_0 ++ (wA_1 ++ (wA_2 ++ (wA_3 ++ (wA_4 ++ (wA_5 ++ (wA_6 ++ (wA_7 ++ (wA_8 ++ (wA_9 ++ (wA_10 ++ (wA_11 ++ (wA_12 ++ (wA_13 ++ (wA_14 ++ (wA_15 ++ (wA_16 ++ (wA_17 ++ (wA_18 ++ (wA_19 ++ (wA_20 ++ (wA_21 ++ (wA_22 ++ (wA_23 ++ (wA_24 ++ (wA_25 ++ (wA_26 ++ (wA_27 ++ (wsX50 ++ (wsX70 ++ (wsX00 ++ (wsX10 ++ (wsX20 ++ (wsX40 ++ (wsX80 ++ (wsX30 ++ (wsX60 ++ (wsX90 ++ (wsX100))))))))))))))))))))))))))))))))))))))
theorem inA_wA_0 : ∀ w ∈ wA_0, w ∈ wAll := fun w h => List.mem_append_left _ h
theorem inA_wA_1 : ∀ w ∈ wA_1, w ∈ wAll := fun w h => List.mem_append_right _ (List.mem_append_left _ h)
theorem inA_wA_2 : ∀ w ∈ wA_2, w ∈ wAll := fun w h => List.mem_append_right _ (List.mem_append_right _ (List.mem_append_left _ h))
theorem inA_wA_3 : ∀ w ∈ wA_3, w ∈ wAll := fun w h => List.mem_append_right _ (List.mem_append_right _ (List.mem_append_right _ (List.mem_append_left _ h)))
theorem inA_wA_4 : ∀ w ∈ wA_4, w ∈ wAll := fun w h => List.mem_append_right _ (List.mem_append_right _ (List.mem_append_right _ (List.mem_append_right _ (List.mem_append_left _ h))))
theorem inA_wA_5 : ∀ w ∈ wA_5, w ∈ wAll := fun w h => List.mem_append_right _ (List.mem_append_right _ (List.mem_append_right _ (List.mem_append_right _ (List.mem_append_right _ (List.mem_append_left _ h)))))
theorem inA_wA_6 : ∀ w ∈ wA_6, w ∈ wAll := fun w h => List.mem_append_right _ (List.mem_append_right _ (List.mem_append_right _ (List.mem_append_right _ (List.mem_append_right _ (List.mem_append_right _ (List.mem_append_left _ h))))))
theorem inA_wA_7 : ∀ w ∈ wA_7, w ∈ wAll := fun w h => List.mem_append_right _ (List.mem_append_right _ (List.mem_append_right _ (List.mem_append_right _ (List.mem_append_right _ (List.mem_append_right _ (List.mem_append_right _ (List.mem_append_left _ h)))))))
theorem inA_wA_8 : ∀ w ∈ wA_8, w ∈ wAll := fun w h => List.mem_append_right _ (List.mem_append_right _ (List.mem_append_right _ (List.mem_append_right _ (List.mem_append_right _ (List.mem_append_right _ (List.mem_append_right _ (List.mem_append_right _ (List.mem_append_left _ h))))))))
theorem inA_wA_9 : ∀ w ∈ wA_9, w ∈ wAll := fun w h => List.mem_append_right _ (List.mem_append_right _ (List.mem_append_right _ (List.mem_append_right _ (List.mem_append_right _ (List.mem_append_right _ (List.mem_append_right _ (List.mem_append_right _ (List.mem_append_right _ (List.mem_append_left _ h)))))))))
theorem inA_wA_10 : ∀ w ∈ wA_10, w ∈ wAll := fun w h => List.mem_append_right _ (List.mem_append_right _ (List.mem_append_right _ (List.mem_append_right _ (List.mem_append_right _ (List.mem_append_right _ (List.mem_append_right _ (List.mem_append_right _ (List.mem_append_right _ (List.mem_append_right _ (List.mem_append_left _ h))))))))))
theorem inA_wA_11 : ∀ w ∈ wA_11, w ∈ wAll := fun w h => List.mem_append_right _ (List.mem_append_right _ (List.mem_append_right _ (List.mem_append_right _ (List.mem_append_right _ (List.mem_append_right _ (List.mem_append_right _ (List.mem_append_right _ (List.mem_append_right _ (List.mem_append_right _ (List.mem_append_right _ (List.mem_append_left _ h)))))))))))
theorem inA_wA_12 : ∀ w ∈ wA_12, w ∈ wAll := fun w h => List.mem_append_right _ (List.mem_append_right _ (List.mem_append_right _ (List.mem_append_right _ (List.mem_append_right _ (List.mem_append_right _ (List.mem_append_right _ (List.mem_append_right _ (List.mem_append_right _ (List.mem_append_right _ (List.mem_append_right _ (List.mem_append_right _ (List.mem_append_left _ h))))))))))))
theorem inA_wA_13 : ∀ w ∈ wA_13, w ∈ wAll := fun w h => List.mem_append_right _ (List.mem_append_right _ (List.mem_append_right _ (List.mem_append_right _ (List.mem_append_right _ (List.mem_append_right _ (List.mem_append_right _ (List.mem_append_right _ (List.mem_append_right _ (List.mem_append_right _ (List.mem_append_right _ (List.mem_append_right _ (List.mem_append_right _ (List.mem_append_left _ h)))))))))))))
theorem inA_wA_14 : ∀ w ∈ wA_14, w ∈ wAll := fun w h => List.mem_append_right _ (List.mem_append_right _ (List.mem_append_right _ (List.mem_append_right _ (List.mem_append_right _ (List.mem_append_right _ (List.mem_append_right _ (List.mem_append_right _ (List.mem_append_right _ (List.mem_append_right _ (List.mem_append_right _ (List.mem_append_right _ (List.mem_append_right _ (List.mem_append_right _ (List.mem_append_left _ h))))))))))))))
theorem inA_wA_15 : ∀ w ∈ wA_15, w ∈ wAll := fun w h => List.mem_append_right _ (List.mem_append_right _ (List.mem_append_right _ (List.mem_append_right _ (List.mem_append_right _ (List.mem_append_right _ (List.mem_append_right _ (List.mem_append_right _ (List.mem_append_right _ (List.mem_append_right _ (List.mem_append_right _ (List.mem_append_right _ (List.mem_append_right _ (List.mem_append_right _ (List.mem_append_right _ (List.mem_append_left _ h)))))))))))))))
theorem inA_wA_16 : ∀ w ∈ wA_16, w ∈ wAll := fun w h => List.mem_append_right _ (List.mem_append_right _ (List.mem_append_right _ (List.mem_append_right _ (List.mem_append_right _ (List.mem_append_right _ (List.mem_append_right _ (List.mem_append_right _ (List.mem_append_right _ (List.mem_append_right _ (List.mem_append_right _ (List.mem_append_right _ (List.mem_append_right _ (List.mem_append_right _ (List.mem_append_right _ (List.mem_append_right _ (List.mem_append_left _ h))))))))))))))))
theorem inA_wA_17 : ∀ w ∈ wA_17, w ∈ wAll := fun w h => List.mem_append_right _ (List.mem_append_right _ (List.mem_append_right _ (List.mem_append_right _ (List.mem_append_right _ (List.mem_append_right _ (List.mem_append_right _ (List.mem_append_right _ (List.mem_append_right _ (List.mem_append_right _ (List.mem_append_right _ (List.mem_append_right _ (List.mem_append_right _ (List.mem_append_right _ (List.mem_append_right _ (List.mem_append_right _ (List.mem_append_right _ (List.mem_append_left _ h)))))))))))))))))
theorem inA_wA_18 : ∀ w ∈ wA_18, w ∈ wAll := fun w h => List.mem_append_right _ (List.mem_append_right _ (List.mem_append_right _ (List.mem_append_right _ (List.mem_append_right _ (List.mem_append_right _ (List.mem_append_right _ (List.mem_append_right _ (List.mem_append_right _ (List.mem_append_right _ (List.mem_append_right _ (List.mem_append_right _ (List.mem_append_right _ (List.mem_append_right _ (List.mem_append_right _ (List.mem_append_right _ (List.mem_append_right _ (List.mem_append_right _ (List.mem_append_left _ h))))))))))))))))))
theorem inA_wA_19 : ∀ w ∈ wA_19, w ∈ wAll := fun w h => List.mem_append_right _ (List.mem_append_right _ (List.mem_append_right _ (List.mem_append_right _ (List.mem_append_right _ (List.mem_append_right _ (List.mem_append_right _ (List.mem_append_right _ (List.mem_append_right _ (List.mem_append_right _ (List.mem_append_right _ (List.mem_append_right _ (List.mem_append_right _ (List.mem_append_right _ (List.mem_append_right _ (List.mem_append_right _ (List.mem_append_right _ (List.mem_append_right _ (List.mem_append_right _ (List.mem_append_left _ h)))))))))))))))))))
theorem inA_wA_20 : ∀ w ∈ wA_20, w ∈ wAll := fun w h => List.mem_append_right _ (List.mem_append_right _ (List.mem_append_right _ (List.mem_append_right _ (List.mem_append_right _ (List.mem_append_right _ (List.mem_append_right _ (List.mem_append_right _ (List.mem_append_right _ (List.mem_append_right _ (List.mem_append_right _ (List.mem_append_right _ (List.mem_append_right _ (List.mem_append_right _ (List.mem_append_right _ (List.mem_append_right _ (List.mem_append_right _ (List.mem_append_right _ (List.mem_append_right _ (List.mem_append_right _ (List.mem_append_left _ h))))))))))))))))))))
theorem inA_wA_21 : ∀ w ∈ wA_21, w ∈ wAll := fun w h => List.mem_append_right _ (List.mem_append_right _ (List.mem_append_right _ (List.mem_append_right _ (List.mem_append_right _ (List.mem_append_right _ (List.mem_append_right _ (List.mem_append_right _ (List.mem_append_right _ (List.mem_append_right _ (List.mem_append_right _ (List.mem_append_right _ (List.mem_append_right _ (List.mem_append_right _ (List.mem_append_right _ (List.mem_append_right _ (List.mem_append_right _ (List.mem_append_right _ (List.mem_append_right _ (List.mem_append_right _ (List.mem_append_right _ (List.mem_append_left _ h)))))))))))))))))))))
theorem inA_wA_22 : ∀ w ∈ wA_22, w ∈ wAll := fun w h => List.mem_append_right _ (List.mem_append_right _ (List.mem_append_right _ (List.mem_append_right _ (List.mem_append_right _ (List.mem_append_right _ (List.mem_append_right _ (List.mem_append_right _ (List.mem_append_right _ (List.mem_append_right _ (List.mem_append_right _ (List.mem_append_right _ (List.mem_append_right _ (List.mem_append_right _ (List.mem_append_right _ (List.mem_append_right _ (List.mem_append_right _ (List.mem_append_right _ (List.mem_append_right _ (List.mem_append_right _ (List.mem_append_right _ (List.mem_append_right _ (List.mem_append_left _ h))))))))))))))))))))))
theorem inA_wA_23 : ∀ w ∈ wA_23, w ∈ wAll := fun w h => List.mem_append_right _ (List.mem_append_right _ (List.mem_append_right _ (List.mem_append_right _ (List.mem_append_right _ (List.mem_append_right _ (List.mem_append_right _ (List.mem_append_right _ (List.mem_append_right _ (List.mem_append_right _ (List.mem_append_right _ (List.mem_append_right _ (List.mem_append_right _ (List.mem_append_right _ (List.mem_append_right _ (List.mem_append_right _ (List.mem_append_right _ (List.mem_append_right _ (List.mem_append_right _ (List.mem_append_right _ (List.mem_append_right _ (List.mem_append_right _ (List.mem_append_right _ (List.mem_append_left _ h)))))))))))))))))))))))
theorem inA_wA_24 : ∀ w ∈ wA_24, w ∈ wAll := fun w h => List.mem_append_right _ (List.mem_append_right _ (List.mem_append_right _ (List.mem_append_right _ (List.mem_append_right _ (List.mem_append_right _ (List.mem_append_right _ (List.mem_append_right _ (List.mem_append_right _ (List.mem_append_right _ (List.mem_append_right _ (List.mem_append_right _ (List.mem_append_right _ (List.mem_append_right _ (List.mem_append_right _ (List.mem_append_right _ (List.mem_append_right _ (List.mem_append_right _ (List.mem_append_right _ (List.mem_append_right _ (List.mem_append_right _ (List.mem_append_right _ (List.mem_append_right _ (List.mem_append_right _ (List.mem_append_left _ h))))))))))))))))))))))))
theorem inA_wA_25 : ∀ w ∈ wA_25, w ∈ wAll := fun w h => List.mem_append_right _ (List.mem_append_right _ (List.mem_append_right _ (List.mem_append_right _ (List.mem_append_right _ (List.mem_append_right _ (List.mem_append_right _ (List.mem_append_right _ (List.mem_append_right _ (List.mem_append_right _ (List.mem_append_right _ (List.mem_append_right _ (List.mem_append_right _ (List.mem_append_right _ (List.mem_append_right _ (List.mem_append_right _ (List.mem_append_right _ (List.mem_append_right _ (List.mem_append_right _ (List.mem_append_right _ (List.mem_append_right _ (List.mem_append_right _ (List.mem_append_right _ (List.mem_append_right _ (List.mem_append_right _ (List.mem_append_left _ h)))))))))))))))))))))))))
theorem inA_wA_26 : ∀ w ∈ wA_26, w ∈ wAll := fun w h => List.mem_append_right _ (List.mem_append_right _ (List.mem_append_right _ (List.mem_append_right _ (List.mem_append_right _ (List.mem_append_right _ (List.mem_append_right _ (List.mem_append_right _ (List.mem_append_right _ (List.mem_append_right _ (List.mem_append_right _ (List.mem_append_right _ (List.mem_append_right _ (List.mem_append_right _ (List.mem_append_right _ (List.mem_append_right _ (List.mem_append_right _ (List.mem_append_right _ (List.mem_append_right _ (List.mem_append_right _ (List.mem_append_right _ (List.mem_append_right _ (List.mem_append_right _ (List.mem_append_right _ (List.mem_append_right _ (List.mem_append_right _ (List.mem_append_left _ h))))))))))))))))))))))))))
theorem inA_wA_27 : ∀ w ∈ wA_27, w ∈ wAll := fun w h => List.mem_append_right _ (List.mem_append_right _ (List.mem_append_right _ (List.mem_append_right _ (List.mem_append_right _ (List.mem_append_right _ (List.mem_append_right _ (List.mem_append_right _ (List.mem_append_right _ (List.mem_append_right _ (List.mem_append_right _ (List.mem_append_right _ (List.mem_append_right _ (List.mem_append_right _ (List.mem_append_right _ (List.mem_append_right _ (List.mem_append_right _ (List.mem_append_right _ (List.mem_append_right _ (List.mem_append_right _ (List.mem_append_right _ (List.mem_append_right _ (List.mem_append_right _ (List.mem_append_right _ (List.mem_append_right _ (List.mem_append_right _ (List.mem_append_right _ (List.mem_append_left _ h)))))))))))))))))))))))))))
theorem inA_wsX50 : ∀ w ∈ wsX50, w ∈ wAll := fun w h => List.mem_append_right _ (List.mem_append_right _ (List.mem_append_right _ (List.mem_append_right _ (List.mem_append_right _ (List.mem_append_right _ (List.mem_append_right _ (List.mem_append_right _ (List.mem_append_right _ (List.mem_append_right _ (List.mem_append_right _ (List.mem_append_right _ (List.mem_append_right _ (List.mem_append_right _ (List.mem_append_right _ (List.mem_append_right _ (List.mem_append_right _ (List.mem_append_right _ (List.mem_append_right _ (List.mem_append_right _ (List.mem_append_right _ (List.mem_append_right _ (List.mem_append_right _ (List.mem_append_right _ (List.mem_append_right _ (List.mem_append_right _ (List.mem_append_right _ (List.mem_append_right _ (List.mem_append_left _ h))))))))))))))))))))))))))))
theorem inA_wsX70 : ∀ w ∈ wsX70, w ∈ wAll := fun w h => List.mem_append_right _ (List.mem_append_right _ (List.mem_append_right _ (List.mem_append_right _ (List.mem_append_right _ (List.mem_append_right _ (List.mem_append_right _ (List.mem_append_right _ (List.mem_append_right _ (List.mem_append_right _ (List.mem_append_right _ (List.mem_append_right _ (List.mem_append_right _ (List.mem_append_right _ (List.mem_append_right _ (List.mem_append_right _ (List.mem_append_right _ (List.mem_append_right _ (List.mem_append_right _ (List.mem_append_right _ (List.mem_append_right _ (List.mem_append_right _ (List.mem_append_right _ (List.mem_append_right _ (List.mem_append_right _ (List.mem_append_right _ (List.mem_append_right _ (List.mem_append_right _ (List.mem_append_right _ (List.mem_append_left _ h)))))))))))))))))))))))))))))
theorem inA_wsX00 : ∀ w ∈ wsX00, w ∈ wAll := fun w h => List.mem_append_right _ (List.mem_append_right _ (List.mem_append_right _ (List.mem_append_right _ (List.mem_append_right _ (List.mem_append_right _ (List.mem_append_right _ (List.mem_append_right _ (List.mem_append_right _ (List.mem_append_right _ (List.mem_append_right _ (List.mem_append_right _ (List.mem_append_right _ (List.mem_append_right _ (List.mem_append_right _ (List.mem_append_right _ (List.mem_append_right _ (List.mem_append_right _ (List.mem_append_right _ (List.mem_append_right _ (List.mem_append_right _ (List.mem_append_right _ (List.mem_append_right _ (List.mem_append_right _ (List.mem_append_right _ (List.mem_append_right _ (List.mem_append_right _ (List.mem_append_right _ (List.mem_append_right _ (List.mem_append_right _ (List.mem_append_left _ h))))))))))))))))))))))))))))))
theorem inA_wsX10 : ∀ w ∈ wsX10, w ∈ wAll := fun w h => List.mem_append_right _ (List.mem_append_right _ (List.mem_append_right _ (List.mem_append_right _ (List.mem_append_right _ (List.mem_append_right _ (List.mem_append_right _ (List.mem_append_right _ (List.mem_append_right _ (List.mem_append_right _ (List.mem_append_right _ (List.mem_append_right _ (List.mem_append_right _ (List.mem_append_right _ (List.mem_append_right _ (List.mem_append_right _ (List.mem_append_right _ (List.mem_append_right _ (List.mem_append_right _ (List.mem_append_right _ (List.mem_append_right _ (List.mem_append_right _ (List.mem_append_right _ (List.mem_append_right _ (List.mem_append_right _ (List.mem_append_right _ (List.mem_append_right _ (List.mem_append_right _ (List.mem_append_right _ (List.mem_append_right _ (List.mem_append_right _ (List.mem_append_left _ h)))))))))))))))))))))))))))))))
theorem inA_wsX20 : ∀ w ∈ wsX20, w ∈ wAll := fun w h => List.mem_append_right _ (List.mem_append_right _ (List.mem_append_right _ (List.mem_append_right _ (List.mem_append_right _ (List.mem_append_right _ (List.mem_append_right _ (List.mem_append_right _ (List.mem_append_right _ (List.mem_append_right _ (List.mem_append_right _ (List.mem_append_right _ (List.mem_append_right _ (List.mem_append_right _ (List.mem_append_right _ (List.mem_append_right _ (List.mem_append_right _ (List.mem_append_right _ (List.mem_append_right _ (List.mem_append_right _ (List.mem_append_right _ (List.mem_append_right _ (List.mem_append_right _ (List.mem_append_right _ (List.mem_append_right _ (List.mem_append_right _ (List.mem_append_right _ (List.mem_append_right _ (List.mem_append_right _ (List.mem_append_right _ (List.mem_append_right _ (List.mem_append_right _ (List.mem_append_left _ h))))))))))))))))))))))))))))))))
theorem inA_wsX40 : ∀ w ∈ wsX40, w ∈ wAll := fun w h => List.mem_append_right _ (List.mem_append_right _ (List.mem_append_right _ (List.mem_append_right _ (List.mem_append_right _ (List.mem_append_right _ (List.mem_append_right _ (List.mem_append_right _ (List.mem_append_right _ (List.mem_append_right _ (List.mem_append_right _ (List.mem_append_right _ (List.mem_append_right _ (List.mem_append_right _ (List.mem_append_right _ (List.mem_append_right _ (List.mem_append_right _ (List.mem_append_right _ (List.mem_append_right _ (List.mem_append_right _ (List.mem_append_right _ (List.mem_append_right _ (List.mem_append_right _ (List.mem_append_right _ (List.mem_append_right _ (List.mem_append_right _ (List.mem_append_right _ (List.mem_append_right _ (List.mem_append_right _ (List.mem_append_right _ (List.mem_append_right _ (List.mem_append_right _ (List.mem_append_right _ (List.mem_append_left _ h)))))))))))))))))))))))))))))))))
theorem inA_wsX80 : ∀ w ∈ wsX80, w ∈ wAll := fun w h => List.mem_append_right _ (List.mem_append_right _ (List.mem_append_right _ (List.mem_append_right _ (List.mem_append_right _ (List.mem_append_right _ (List.mem_append_right _ (List.mem_append_right _ (List.mem_append_right _ (List.mem_append_right _ (List.mem_append_right _ (List.mem_append_right _ (List.mem_append_right _ (List.mem_append_right _ (List.mem_append_right _ (List.mem_append_right _ (List.mem_append_right _ (List.mem_append_right _ (List.mem_append_right _ (List.mem_append_right _ (List.mem_append_right _ (List.mem_append_right _ (List.mem_append_right _ (List.mem_append_right _ (List.mem_append_right _ (List.mem_append_right _ (List.mem_append_right _ (List.mem_append_right _ (List.mem_append_right _ (List.mem_append_right _ (List.mem_append_right _ (List.mem_append_right _ (List.mem_append_right _ (List.mem_append_right _ (List.mem_append_left _ h))))))))))))))))))))))))))))))))))
theorem inA_wsX30 : ∀ w ∈ wsX30, w ∈ wAll := fun w h => List.mem_append_right _ (List.mem_append_right _ (List.mem_append_right _ (List.mem_append_right _ (List.mem_append_right _ (List.mem_append_right _ (List.mem_append_right _ (List.mem_append_right _ (List.mem_append_right _ (List.mem_append_right _ (List.mem_append_right _ (List.mem_append_right _ (List.mem_append_right _ (List.mem_append_right _ (List.mem_append_right _ (List.mem_append_right _ (List.mem_append_right _ (List.mem_append_right _ (List.mem_append_right _ (List.mem_append_right _ (List.mem_append_right _ (List.mem_append_right _ (List.mem_append_right _ (List.mem_append_right _ (List.mem_append_right _ (List.mem_append_right _ (List.mem_append_right _ (List.mem_append_right _ (List.mem_append_right _ (List.mem_append_right _ (List.mem_append_right _ (List.mem_append_right _ (List.mem_append_right _ (List.mem_append_right _ (List.mem_append_right _ (List.mem_append_left _ h)))))))))))))))))))))))))))))))))))
theorem inA_wsX60 : ∀ w ∈ wsX60, w ∈ wAll := fun w h => List.mem_append_right _ (List.mem_append_right _ (List.mem_append_right _ (List.mem_append_right _ (List.mem_append_right _ (List.mem_append_right _ (List.mem_append_right _ (List.mem_append_right _ (List.mem_append_right _ (List.mem_append_right _ (List.mem_append_right _ (List.mem_append_right _ (List.mem_append_right _ (List.mem_append_right _ (List.mem_append_right _ (List.mem_append_right _ (List.mem_append_right _ (List.mem_append_right _ (List.mem_append_right _ (List.mem_append_right _ (List.mem_append_right _ (List.mem_append_right _ (List.mem_append_right _ (List.mem_append_right _ (List.mem_append_right _ (List.mem_append_right _ (List.mem_append_right _ (List.mem_append_right _ (List.mem_append_right _ (List.mem_append_right _ (List.mem_append_right _ (List.mem_append_right _ (List.mem_append_right _ (List.mem_append_right _ (List.mem_append_right _ (List.mem_append_right _ (List.mem_append_left _ h))))))))))))))))))))))))))))))))))))
theorem inA_wsX90 : ∀ w ∈ wsX90, w ∈ wAll := fun w h => List.mem_append_right _ (List.mem_append_right _ (List.mem_append_right _ (List.mem_append_right _ (List.mem_append_right _ (List.mem_append_right _ (List.mem_append_right _ (List.mem_append_right _ (List.mem_append_right _ (List.mem_append_right _ (List.mem_append_right _ (List.mem_append_right _ (List.mem_append_right _ (List.mem_append_right _ (List.mem_append_right _ (List.mem_append_right _ (List.mem_append_right _ (List.mem_append_right _ (List.mem_append_right _ (List.mem_append_right _ (List.mem_append_right _ (List.mem_append_right _ (List.mem_append_right _ (List.mem_append_right _ (List.mem_append_right _ (List.mem_append_right _ (List.mem_append_right _ (List.mem_append_right _ (List.mem_append_right _ (List.mem_append_right _ (List.mem_append_right _ (List.mem_append_right _ (List.mem_append_right _ (List.mem_append_right _ (List.mem_append_right _ (List.mem_append_right _ (List.mem_append_right _ (List.mem_append_left _ h)))))))))))))))))))))))))))))))))))))
theorem inA_wsX100 : ∀ w ∈ wsX100, w ∈ wAll := fun w h => List.mem_append_right _ (List.mem_append_right _ (List.mem_append_right _ (List.mem_append_right _ (List.mem_append_right _ (List.mem_append_right _ (List.mem_append_right _ (List.mem_append_right _ (List.mem_append_right _ (List.mem_append_right _ (List.mem_append_right _ (List.mem_append_right _ (List.mem_append_right _ (List.mem_append_right _ (List.mem_append_right _ (List.mem_append_right _ (List.mem_append_right _ (List.mem_append_right _ (List.mem_append_right _ (List.mem_append_right _ (List.mem_append_right _ (List.mem_append_right _ (List.mem_append_right _ (List.mem_append_right _ (List.mem_append_right _ (List.mem_append_right _ (List.mem_append_right _ (List.mem_append_right _ (List.mem_append_right _ (List.mem_append_right _ (List.mem_append_right _ (List.mem_append_right _ (List.mem_append_right _ (List.mem_append_right _ (List.mem_append_right _ (List.mem_append_right _ (List.mem_append_right _ (List.mem_append_right _ (h))))))))))))))))))))))))))))))))))))))
theorem m_0 : Cond.methodLink RX5 3 objectInit ∈ wAll := inA_wA_0 _ (List.mem_of_getElem? (i := 0) rfl)
theorem m_1 : Cond.instanceMethod objectInit ∈ wAll := inA_wA_0 _ (List.mem_of_getElem? (i := 1) rfl)
theorem m_2 : Cond.code objectInit ⟨#[0xb1]⟩ 1 none ∈ wAll := inA_wA_0 _ (List.mem_of_getElem? (i := 2) rfl)
theorem m_3 : Cond.arrayClass .long ∈ wAll := inA_wA_0 _ (List.mem_of_getElem? (i := 3) rfl)
theorem m_4 : Cond.fieldLink RX5 9 "CardBowl$Slot" "numbers" "[J" ∈ wAll := inA_wA_0 _ (List.mem_of_getElem? (i := 4) rfl)
theorem m_5 : Cond.code yX5_init cX5_init 1 none ∈ wAll := inA_wA_0 _ (List.mem_of_getElem? (i := 5) rfl)
theorem m_6 : Cond.methodLink RX7 3 objectInit ∈ wAll := inA_wA_0 _ (List.mem_of_getElem? (i := 6) rfl)
theorem m_7 : Cond.fieldLink RX7 11 "CardBowl$Town" "introducers" "I" ∈ wAll := inA_wA_0 _ (List.mem_of_getElem? (i := 7) rfl)
theorem m_8 : Cond.arrayClass .int ∈ wAll := inA_wA_0 _ (List.mem_of_getElem? (i := 8) rfl)
theorem m_9 : Cond.fieldLink RX7 15 "CardBowl$Town" "x" "[I" ∈ wAll := inA_wA_0 _ (List.mem_of_getElem? (i := 9) rfl)
theorem m_10 : Cond.fieldLink RX7 19 "CardBowl$Town" "y" "[I" ∈ wAll := inA_wA_0 _ (List.mem_of_getElem? (i := 10) rfl)
theorem m_11 : Cond.fieldLink RX7 22 "CardBowl$Town" "rank" "[I" ∈ wAll := inA_wA_0 _ (List.mem_of_getElem? (i := 11) rfl)
theorem m_12 : Cond.fieldLink RX7 25 "CardBowl$Town" "weekday" "[I" ∈ wAll := inA_wA_0 _ (List.mem_of_getElem? (i := 12) rfl)
theorem m_13 : Cond.fieldLink RX7 28 "CardBowl$Town" "from" "[I" ∈ wAll := inA_wA_0 _ (List.mem_of_getElem? (i := 13) rfl)
theorem m_14 : Cond.fieldLink RX7 31 "CardBowl$Town" "to" "[I" ∈ wAll := inA_wA_0 _ (List.mem_of_getElem? (i := 14) rfl)
theorem m_15 : Cond.fieldLink RX7 34 "CardBowl$Town" "came" "[I" ∈ wAll := inA_wA_0 _ (List.mem_of_getElem? (i := 15) rfl)
theorem m_16 : Cond.fieldLink RX7 37 "CardBowl$Town" "bride" "[I" ∈ wAll := inA_wA_0 _ (List.mem_of_getElem? (i := 16) rfl)
theorem m_17 : Cond.fieldLink RX7 40 "CardBowl$Town" "told" "[I" ∈ wAll := inA_wA_0 _ (List.mem_of_getElem? (i := 17) rfl)
theorem m_18 : Cond.code yX7_init cX7_init 1 none ∈ wAll := inA_wA_0 _ (List.mem_of_getElem? (i := 18) rfl)
theorem m_19 : Cond.methodLink RX0 3 objectInit ∈ wAll := inA_wA_0 _ (List.mem_of_getElem? (i := 19) rfl)
theorem m_20 : Cond.fieldLink RX0 9 "CardBowl$Code" "paying" "[I" ∈ wAll := inA_wA_0 _ (List.mem_of_getElem? (i := 20) rfl)
theorem m_21 : Cond.fieldLink RX0 15 "CardBowl$Code" "kind" "[I" ∈ wAll := inA_wA_0 _ (List.mem_of_getElem? (i := 21) rfl)
theorem m_22 : Cond.fieldLink RX0 18 "CardBowl$Code" "within" "[I" ∈ wAll := inA_wA_0 _ (List.mem_of_getElem? (i := 22) rfl)
theorem m_23 : Cond.fieldLink RX0 21 "CardBowl$Code" "start" "[I" ∈ wAll := inA_wA_0 _ (List.mem_of_getElem? (i := 23) rfl)
theorem m_24 : Cond.fieldLink RX0 24 "CardBowl$Code" "stop" "[I" ∈ wAll := inA_wA_1 _ (List.mem_of_getElem? (i := 0) rfl)
theorem m_25 : Cond.fieldLink RX0 27 "CardBowl$Code" "tests" "[I" ∈ wAll := inA_wA_1 _ (List.mem_of_getElem? (i := 1) rfl)
theorem m_26 : Cond.fieldLink RX0 30 "CardBowl$Code" "facts" "[I" ∈ wAll := inA_wA_1 _ (List.mem_of_getElem? (i := 2) rfl)
theorem m_27 : Cond.code yX0_init cX0_init 1 none ∈ wAll := inA_wA_1 _ (List.mem_of_getElem? (i := 3) rfl)
theorem m_28 : Cond.methodLink RX1 3 objectInit ∈ wAll := inA_wA_1 _ (List.mem_of_getElem? (i := 4) rfl)
theorem m_29 : Cond.fieldLink RX1 9 "CardBowl$Debts" "debtor" "[I" ∈ wAll := inA_wA_1 _ (List.mem_of_getElem? (i := 5) rfl)
theorem m_30 : Cond.fieldLink RX1 15 "CardBowl$Debts" "creditor" "[I" ∈ wAll := inA_wA_1 _ (List.mem_of_getElem? (i := 6) rfl)
theorem m_31 : Cond.fieldLink RX1 18 "CardBowl$Debts" "kind" "[I" ∈ wAll := inA_wA_1 _ (List.mem_of_getElem? (i := 7) rfl)
theorem m_32 : Cond.fieldLink RX1 21 "CardBowl$Debts" "due" "[I" ∈ wAll := inA_wA_1 _ (List.mem_of_getElem? (i := 8) rfl)
theorem m_33 : Cond.fieldLink RX1 24 "CardBowl$Debts" "came" "[I" ∈ wAll := inA_wA_1 _ (List.mem_of_getElem? (i := 9) rfl)
theorem m_34 : Cond.fieldLink RX1 27 "CardBowl$Debts" "open" "[I" ∈ wAll := inA_wA_1 _ (List.mem_of_getElem? (i := 10) rfl)
theorem m_35 : Cond.fieldLink RX1 30 "CardBowl$Debts" "kinds" "[I" ∈ wAll := inA_wA_1 _ (List.mem_of_getElem? (i := 11) rfl)
theorem m_36 : Cond.code yX1_init cX1_init 1 none ∈ wAll := inA_wA_1 _ (List.mem_of_getElem? (i := 12) rfl)
theorem m_37 : Cond.methodLink RX2 3 objectInit ∈ wAll := inA_wA_1 _ (List.mem_of_getElem? (i := 13) rfl)
theorem m_38 : Cond.fieldLink RX2 9 "CardBowl$Deeds" "who" "[I" ∈ wAll := inA_wA_1 _ (List.mem_of_getElem? (i := 14) rfl)
theorem m_39 : Cond.fieldLink RX2 15 "CardBowl$Deeds" "whom" "[I" ∈ wAll := inA_wA_1 _ (List.mem_of_getElem? (i := 15) rfl)
theorem m_40 : Cond.fieldLink RX2 18 "CardBowl$Deeds" "what" "[I" ∈ wAll := inA_wA_1 _ (List.mem_of_getElem? (i := 16) rfl)
theorem m_41 : Cond.fieldLink RX2 21 "CardBowl$Deeds" "day" "[I" ∈ wAll := inA_wA_1 _ (List.mem_of_getElem? (i := 17) rfl)
theorem m_42 : Cond.code yX2_init cX2_init 1 none ∈ wAll := inA_wA_1 _ (List.mem_of_getElem? (i := 18) rfl)
theorem m_43 : Cond.methodLink RX4 5 objectInit ∈ wAll := inA_wA_1 _ (List.mem_of_getElem? (i := 19) rfl)
theorem m_44 : Cond.fieldLink RX4 11 "CardBowl$Rounds" "order" "[I" ∈ wAll := inA_wA_1 _ (List.mem_of_getElem? (i := 20) rfl)
theorem m_45 : Cond.fieldLink RX4 15 "CardBowl$Rounds" "owner" "I" ∈ wAll := inA_wA_1 _ (List.mem_of_getElem? (i := 21) rfl)
theorem m_46 : Cond.fieldLink RX4 19 "CardBowl$Rounds" "weekday" "I" ∈ wAll := inA_wA_1 _ (List.mem_of_getElem? (i := 22) rfl)
theorem m_47 : Cond.fieldLink RX4 22 "CardBowl$Rounds" "spot" "[I" ∈ wAll := inA_wA_1 _ (List.mem_of_getElem? (i := 23) rfl)
theorem m_48 : Cond.fieldLink RX4 25 "CardBowl$Rounds" "deadline" "[I" ∈ wAll := inA_wA_2 _ (List.mem_of_getElem? (i := 0) rfl)
theorem m_49 : Cond.fieldLink RX4 28 "CardBowl$Rounds" "opens" "[I" ∈ wAll := inA_wA_2 _ (List.mem_of_getElem? (i := 1) rfl)
theorem m_50 : Cond.fieldLink RX4 31 "CardBowl$Rounds" "closes" "[I" ∈ wAll := inA_wA_2 _ (List.mem_of_getElem? (i := 2) rfl)
theorem m_51 : Cond.fieldLink RX4 34 "CardBowl$Rounds" "stays" "[I" ∈ wAll := inA_wA_2 _ (List.mem_of_getElem? (i := 3) rfl)
theorem m_52 : Cond.fieldLink RX4 37 "CardBowl$Rounds" "apart" "[I" ∈ wAll := inA_wA_2 _ (List.mem_of_getElem? (i := 4) rfl)
theorem m_53 : Cond.fieldLink RX4 40 "CardBowl$Rounds" "minute" "[I" ∈ wAll := inA_wA_2 _ (List.mem_of_getElem? (i := 5) rfl)
theorem m_54 : Cond.fieldLink RX4 43 "CardBowl$Rounds" "soonest" "[I" ∈ wAll := inA_wA_2 _ (List.mem_of_getElem? (i := 6) rfl)
theorem m_55 : Cond.fieldLink RX4 46 "CardBowl$Rounds" "sums" "[I" ∈ wAll := inA_wA_2 _ (List.mem_of_getElem? (i := 7) rfl)
theorem m_56 : Cond.code yX4_init cX4_init 1 none ∈ wAll := inA_wA_2 _ (List.mem_of_getElem? (i := 8) rfl)
theorem m_57 : Cond.methodLink RX8 5 objectInit ∈ wAll := inA_wA_2 _ (List.mem_of_getElem? (i := 9) rfl)
theorem m_58 : Cond.fieldLink RX8 11 "CardBowl$Ways" "calls" "[I" ∈ wAll := inA_wA_2 _ (List.mem_of_getElem? (i := 10) rfl)
theorem m_59 : Cond.fieldLink RX8 15 "CardBowl$Ways" "caller" "I" ∈ wAll := inA_wA_2 _ (List.mem_of_getElem? (i := 11) rfl)
theorem m_60 : Cond.fieldLink RX8 19 "CardBowl$Ways" "goal" "I" ∈ wAll := inA_wA_2 _ (List.mem_of_getElem? (i := 12) rfl)
theorem m_61 : Cond.fieldLink RX8 22 "CardBowl$Ways" "house" "[I" ∈ wAll := inA_wA_2 _ (List.mem_of_getElem? (i := 13) rfl)
theorem m_62 : Cond.fieldLink RX8 25 "CardBowl$Ways" "friends" "[I" ∈ wAll := inA_wA_2 _ (List.mem_of_getElem? (i := 14) rfl)
theorem m_63 : Cond.fieldLink RX8 28 "CardBowl$Ways" "links" "[I" ∈ wAll := inA_wA_2 _ (List.mem_of_getElem? (i := 15) rfl)
theorem m_64 : Cond.fieldLink RX8 31 "CardBowl$Ways" "queue" "[I" ∈ wAll := inA_wA_2 _ (List.mem_of_getElem? (i := 16) rfl)
theorem m_65 : Cond.fieldLink RX8 34 "CardBowl$Ways" "latest" "[I" ∈ wAll := inA_wA_2 _ (List.mem_of_getElem? (i := 17) rfl)
theorem m_66 : Cond.code yX8_init cX8_init 1 none ∈ wAll := inA_wA_2 _ (List.mem_of_getElem? (i := 18) rfl)
theorem m_67 : Cond.methodLink RX3 3 objectInit ∈ wAll := inA_wA_2 _ (List.mem_of_getElem? (i := 19) rfl)
theorem m_68 : Cond.classLink RX3 9 RX7 ∈ wAll := inA_wA_2 _ (List.mem_of_getElem? (i := 20) rfl)
theorem m_69 : Cond.instantiable RX7 12 ∈ wAll := inA_wA_2 _ (List.mem_of_getElem? (i := 21) rfl)
theorem m_70 : Cond.initialized RX7 ∈ wAll := inA_wA_2 _ (List.mem_of_getElem? (i := 22) rfl)
theorem m_71 : Cond.instanceMethod yX7_init ∈ wAll := inA_wA_2 _ (List.mem_of_getElem? (i := 23) rfl)
theorem m_72 : Cond.fieldLink RX3 12 "CardBowl$Reader" "town" "LCardBowl$Town;" ∈ wAll := inA_wA_3 _ (List.mem_of_getElem? (i := 0) rfl)
theorem m_73 : Cond.classLink RX3 18 RX0 ∈ wAll := inA_wA_3 _ (List.mem_of_getElem? (i := 1) rfl)
theorem m_74 : Cond.instantiable RX0 10 ∈ wAll := inA_wA_3 _ (List.mem_of_getElem? (i := 2) rfl)
theorem m_75 : Cond.initialized RX0 ∈ wAll := inA_wA_3 _ (List.mem_of_getElem? (i := 3) rfl)
theorem m_76 : Cond.instanceMethod yX0_init ∈ wAll := inA_wA_3 _ (List.mem_of_getElem? (i := 4) rfl)
theorem m_77 : Cond.fieldLink RX3 21 "CardBowl$Reader" "code" "LCardBowl$Code;" ∈ wAll := inA_wA_3 _ (List.mem_of_getElem? (i := 5) rfl)
theorem m_78 : Cond.fieldLink RX3 25 "CardBowl$Reader" "place" "I" ∈ wAll := inA_wA_3 _ (List.mem_of_getElem? (i := 6) rfl)
theorem m_79 : Cond.code yX3_init cX3_init 1 none ∈ wAll := inA_wA_3 _ (List.mem_of_getElem? (i := 7) rfl)
theorem m_80 : Cond.methodLink RX6 3 objectInit ∈ wAll := inA_wA_3 _ (List.mem_of_getElem? (i := 8) rfl)
theorem m_81 : Cond.classLink RX6 9 RX7 ∈ wAll := inA_wA_3 _ (List.mem_of_getElem? (i := 9) rfl)
theorem m_82 : Cond.fieldLink RX6 12 "CardBowl$State" "town" "LCardBowl$Town;" ∈ wAll := inA_wA_3 _ (List.mem_of_getElem? (i := 10) rfl)
theorem m_83 : Cond.classLink RX6 18 RX0 ∈ wAll := inA_wA_3 _ (List.mem_of_getElem? (i := 11) rfl)
theorem m_84 : Cond.fieldLink RX6 21 "CardBowl$State" "code" "LCardBowl$Code;" ∈ wAll := inA_wA_3 _ (List.mem_of_getElem? (i := 12) rfl)
theorem m_85 : Cond.classLink RX6 25 RX1 ∈ wAll := inA_wA_3 _ (List.mem_of_getElem? (i := 13) rfl)
theorem m_86 : Cond.instantiable RX1 8 ∈ wAll := inA_wA_3 _ (List.mem_of_getElem? (i := 14) rfl)
theorem m_87 : Cond.initialized RX1 ∈ wAll := inA_wA_3 _ (List.mem_of_getElem? (i := 15) rfl)
theorem m_88 : Cond.instanceMethod yX1_init ∈ wAll := inA_wA_3 _ (List.mem_of_getElem? (i := 16) rfl)
theorem m_89 : Cond.fieldLink RX6 28 "CardBowl$State" "debts" "LCardBowl$Debts;" ∈ wAll := inA_wA_3 _ (List.mem_of_getElem? (i := 17) rfl)
theorem m_90 : Cond.classLink RX6 32 RX2 ∈ wAll := inA_wA_3 _ (List.mem_of_getElem? (i := 18) rfl)
theorem m_91 : Cond.instantiable RX2 5 ∈ wAll := inA_wA_3 _ (List.mem_of_getElem? (i := 19) rfl)
theorem m_92 : Cond.initialized RX2 ∈ wAll := inA_wA_3 _ (List.mem_of_getElem? (i := 20) rfl)
theorem m_93 : Cond.instanceMethod yX2_init ∈ wAll := inA_wA_3 _ (List.mem_of_getElem? (i := 21) rfl)
theorem m_94 : Cond.fieldLink RX6 35 "CardBowl$State" "deeds" "LCardBowl$Deeds;" ∈ wAll := inA_wA_3 _ (List.mem_of_getElem? (i := 22) rfl)
theorem m_95 : Cond.fieldLink RX6 39 "CardBowl$State" "knows" "[I" ∈ wAll := inA_wA_3 _ (List.mem_of_getElem? (i := 23) rfl)
theorem m_96 : Cond.fieldLink RX6 43 "CardBowl$State" "follows" "[I" ∈ wAll := inA_wA_4 _ (List.mem_of_getElem? (i := 0) rfl)
theorem m_97 : Cond.code yX6_init cX6_init 1 none ∈ wAll := inA_wA_4 _ (List.mem_of_getElem? (i := 1) rfl)
theorem m_98 : Cond.methodLink RX9 1 objectInit ∈ wAll := inA_wA_4 _ (List.mem_of_getElem? (i := 2) rfl)
theorem m_99 : Cond.arrayClass .byte ∈ wAll := inA_wA_4 _ (List.mem_of_getElem? (i := 3) rfl)
theorem m_100 : Cond.fieldLink RX9 9 "CardBowl" "tape" "[B" ∈ wAll := inA_wA_4 _ (List.mem_of_getElem? (i := 4) rfl)
theorem m_101 : Cond.classLink RX9 13 RX3 ∈ wAll := inA_wA_4 _ (List.mem_of_getElem? (i := 5) rfl)
theorem m_102 : Cond.instantiable RX3 10 ∈ wAll := inA_wA_4 _ (List.mem_of_getElem? (i := 6) rfl)
theorem m_103 : Cond.initialized RX3 ∈ wAll := inA_wA_4 _ (List.mem_of_getElem? (i := 7) rfl)
theorem m_104 : Cond.instanceMethod yX3_init ∈ wAll := inA_wA_4 _ (List.mem_of_getElem? (i := 8) rfl)
theorem m_105 : Cond.fieldLink RX9 16 "CardBowl" "reader" "LCardBowl$Reader;" ∈ wAll := inA_wA_4 _ (List.mem_of_getElem? (i := 9) rfl)
theorem m_106 : Cond.classLink RX9 20 RX6 ∈ wAll := inA_wA_4 _ (List.mem_of_getElem? (i := 10) rfl)
theorem m_107 : Cond.instantiable RX6 8 ∈ wAll := inA_wA_4 _ (List.mem_of_getElem? (i := 11) rfl)
theorem m_108 : Cond.initialized RX6 ∈ wAll := inA_wA_4 _ (List.mem_of_getElem? (i := 12) rfl)
theorem m_109 : Cond.instanceMethod yX6_init ∈ wAll := inA_wA_4 _ (List.mem_of_getElem? (i := 13) rfl)
theorem m_110 : Cond.fieldLink RX9 23 "CardBowl" "state" "LCardBowl$State;" ∈ wAll := inA_wA_4 _ (List.mem_of_getElem? (i := 14) rfl)
theorem m_111 : Cond.fieldLink RX9 27 "CardBowl" "images" "[LCardBowl$State;" ∈ wAll := inA_wA_4 _ (List.mem_of_getElem? (i := 15) rfl)
theorem m_112 : Cond.classLink RX9 31 RX5 ∈ wAll := inA_wA_4 _ (List.mem_of_getElem? (i := 16) rfl)
theorem m_113 : Cond.fieldLink RX9 33 "CardBowl" "slots" "[LCardBowl$Slot;" ∈ wAll := inA_wA_4 _ (List.mem_of_getElem? (i := 17) rfl)
theorem m_114 : Cond.classLink RX9 37 RX4 ∈ wAll := inA_wA_4 _ (List.mem_of_getElem? (i := 18) rfl)
theorem m_115 : Cond.instantiable RX4 17 ∈ wAll := inA_wA_4 _ (List.mem_of_getElem? (i := 19) rfl)
theorem m_116 : Cond.initialized RX4 ∈ wAll := inA_wA_4 _ (List.mem_of_getElem? (i := 20) rfl)
theorem m_117 : Cond.instanceMethod yX4_init ∈ wAll := inA_wA_4 _ (List.mem_of_getElem? (i := 21) rfl)
theorem m_118 : Cond.fieldLink RX9 40 "CardBowl" "rounds" "LCardBowl$Rounds;" ∈ wAll := inA_wA_4 _ (List.mem_of_getElem? (i := 22) rfl)
theorem m_119 : Cond.classLink RX9 44 RX8 ∈ wAll := inA_wA_4 _ (List.mem_of_getElem? (i := 23) rfl)
theorem m_120 : Cond.instantiable RX8 11 ∈ wAll := inA_wA_5 _ (List.mem_of_getElem? (i := 0) rfl)
theorem m_121 : Cond.initialized RX8 ∈ wAll := inA_wA_5 _ (List.mem_of_getElem? (i := 1) rfl)
theorem m_122 : Cond.instanceMethod yX8_init ∈ wAll := inA_wA_5 _ (List.mem_of_getElem? (i := 2) rfl)
theorem m_123 : Cond.fieldLink RX9 47 "CardBowl" "ways" "LCardBowl$Ways;" ∈ wAll := inA_wA_5 _ (List.mem_of_getElem? (i := 3) rfl)
theorem m_124 : Cond.classLink RX9 51 RX1 ∈ wAll := inA_wA_5 _ (List.mem_of_getElem? (i := 4) rfl)
theorem m_125 : Cond.fieldLink RX9 54 "CardBowl" "otherDebts" "LCardBowl$Debts;" ∈ wAll := inA_wA_5 _ (List.mem_of_getElem? (i := 5) rfl)
theorem m_126 : Cond.fieldLink RX9 58 "CardBowl" "otherKnows" "[I" ∈ wAll := inA_wA_5 _ (List.mem_of_getElem? (i := 6) rfl)
theorem m_127 : Cond.instantiable RX5 4 ∈ wAll := inA_wA_5 _ (List.mem_of_getElem? (i := 7) rfl)
theorem m_128 : Cond.initialized RX5 ∈ wAll := inA_wA_5 _ (List.mem_of_getElem? (i := 8) rfl)
theorem m_129 : Cond.instanceMethod yX5_init ∈ wAll := inA_wA_5 _ (List.mem_of_getElem? (i := 9) rfl)
theorem m_130 : Cond.code yX9_init cX9_init 2 none ∈ wAll := inA_wA_5 _ (List.mem_of_getElem? (i := 10) rfl)
theorem m_131 : Cond.methodLink RX10 7 objectInit ∈ wAll := inA_wA_5 _ (List.mem_of_getElem? (i := 11) rfl)
theorem m_132 : Cond.fieldLink RX10 13 "CardBowlModel" "world" "[I" ∈ wAll := inA_wA_5 _ (List.mem_of_getElem? (i := 12) rfl)
theorem m_133 : Cond.fieldLink RX10 17 "CardBowlModel" "images" "[I" ∈ wAll := inA_wA_5 _ (List.mem_of_getElem? (i := 13) rfl)
theorem m_134 : Cond.arrayClass .boolean ∈ wAll := inA_wA_5 _ (List.mem_of_getElem? (i := 14) rfl)
theorem m_135 : Cond.fieldLink RX10 20 "CardBowlModel" "hasImage" "[Z" ∈ wAll := inA_wA_5 _ (List.mem_of_getElem? (i := 15) rfl)
theorem m_136 : Cond.fieldLink RX10 24 "CardBowlModel" "tape" "[B" ∈ wAll := inA_wA_5 _ (List.mem_of_getElem? (i := 16) rfl)
theorem m_137 : Cond.fieldLink RX10 28 "CardBowlModel" "five" "[I" ∈ wAll := inA_wA_5 _ (List.mem_of_getElem? (i := 17) rfl)
theorem m_138 : Cond.fieldLink RX10 31 "CardBowlModel" "faultPlace" "I" ∈ wAll := inA_wA_5 _ (List.mem_of_getElem? (i := 18) rfl)
theorem m_139 : Cond.fieldLink RX10 34 "CardBowlModel" "fresh" "[I" ∈ wAll := inA_wA_5 _ (List.mem_of_getElem? (i := 19) rfl)
theorem m_140 : Cond.fieldLink RX10 37 "CardBowlModel" "parts" "[I" ∈ wAll := inA_wA_5 _ (List.mem_of_getElem? (i := 20) rfl)
theorem m_141 : Cond.fieldLink RX10 40 "CardBowlModel" "houses" "[I" ∈ wAll := inA_wA_5 _ (List.mem_of_getElem? (i := 21) rfl)
theorem m_142 : Cond.fieldLink RX10 43 "CardBowlModel" "worthOf" "[I" ∈ wAll := inA_wA_5 _ (List.mem_of_getElem? (i := 22) rfl)
theorem m_143 : Cond.fieldLink RX10 46 "CardBowlModel" "byCall" "[Z" ∈ wAll := inA_wA_5 _ (List.mem_of_getElem? (i := 23) rfl)
theorem m_144 : Cond.fieldLink RX10 49 "CardBowlModel" "over" "[I" ∈ wAll := inA_wA_6 _ (List.mem_of_getElem? (i := 0) rfl)
theorem m_145 : Cond.fieldLink RX10 52 "CardBowlModel" "row" "[I" ∈ wAll := inA_wA_6 _ (List.mem_of_getElem? (i := 1) rfl)
theorem m_146 : Cond.fieldLink RX10 55 "CardBowlModel" "tenDebts" "[I" ∈ wAll := inA_wA_6 _ (List.mem_of_getElem? (i := 2) rfl)
theorem m_147 : Cond.fieldLink RX10 58 "CardBowlModel" "fewestBy" "[I" ∈ wAll := inA_wA_6 _ (List.mem_of_getElem? (i := 3) rfl)
theorem m_148 : Cond.fieldLink RX10 61 "CardBowlModel" "covered" "[I" ∈ wAll := inA_wA_6 _ (List.mem_of_getElem? (i := 4) rfl)
theorem m_149 : Cond.constant RX10 64 (65536) ∈ wAll := inA_wA_6 _ (List.mem_of_getElem? (i := 5) rfl)
theorem m_150 : Cond.fieldLink RX10 65 "CardBowlModel" "queue" "[I" ∈ wAll := inA_wA_6 _ (List.mem_of_getElem? (i := 6) rfl)
theorem m_151 : Cond.fieldLink RX10 68 "CardBowlModel" "cameBy" "[I" ∈ wAll := inA_wA_6 _ (List.mem_of_getElem? (i := 7) rfl)
theorem m_152 : Cond.fieldLink RX10 71 "CardBowlModel" "parent" "[I" ∈ wAll := inA_wA_6 _ (List.mem_of_getElem? (i := 8) rfl)
theorem m_153 : Cond.fieldLink RX10 74 "CardBowlModel" "met" "[Z" ∈ wAll := inA_wA_6 _ (List.mem_of_getElem? (i := 9) rfl)
theorem m_154 : Cond.fieldLink RX10 77 "CardBowlModel" "calls" "[I" ∈ wAll := inA_wA_6 _ (List.mem_of_getElem? (i := 10) rfl)
theorem m_155 : Cond.fieldLink RX10 80 "CardBowlModel" "calledOn" "[I" ∈ wAll := inA_wA_6 _ (List.mem_of_getElem? (i := 11) rfl)
theorem m_156 : Cond.fieldLink RX10 83 "CardBowlModel" "saved" "[I" ∈ wAll := inA_wA_6 _ (List.mem_of_getElem? (i := 12) rfl)
theorem m_157 : Cond.fieldLink RX10 86 "CardBowlModel" "many" "[I" ∈ wAll := inA_wA_6 _ (List.mem_of_getElem? (i := 13) rfl)
theorem m_158 : Cond.fieldLink RX10 89 "CardBowlModel" "width" "[I" ∈ wAll := inA_wA_6 _ (List.mem_of_getElem? (i := 14) rfl)
theorem m_159 : Cond.fieldLink RX10 92 "CardBowlModel" "numbers" "[J" ∈ wAll := inA_wA_6 _ (List.mem_of_getElem? (i := 15) rfl)
theorem m_160 : Cond.fieldLink RX10 96 "CardBowlModel" "moving" "[J" ∈ wAll := inA_wA_6 _ (List.mem_of_getElem? (i := 16) rfl)
theorem m_161 : Cond.code yX10_init cX10_init 1 none ∈ wAll := inA_wA_6 _ (List.mem_of_getElem? (i := 17) rfl)
theorem m_162 : Cond.code yX9_isSlot cX9_isSlot 1 (some .boolean) ∈ wAll := inA_wA_6 _ (List.mem_of_getElem? (i := 18) rfl)
theorem m_163 : Cond.code yX9_isImage cX9_isImage 1 (some .boolean) ∈ wAll := inA_wA_6 _ (List.mem_of_getElem? (i := 19) rfl)
theorem m_164 : Cond.code yX10_in cX10_in 6 (some .boolean) ∈ wAll := inA_wA_6 _ (List.mem_of_getElem? (i := 20) rfl)
theorem m_165 : Cond.constantLong RX10 313 (3) ∈ wAll := inA_wA_6 _ (List.mem_of_getElem? (i := 21) rfl)
theorem m_166 : Cond.initialized RX10 ∈ wAll := inA_wA_6 _ (List.mem_of_getElem? (i := 22) rfl)
theorem m_167 : Cond.methodLink RX10 101 yX10_in ∈ wAll := inA_wA_6 _ (List.mem_of_getElem? (i := 23) rfl)
theorem m_168 : Cond.static yX10_in ∈ wAll := inA_wA_7 _ (List.mem_of_getElem? (i := 0) rfl)
theorem m_169 : Cond.code yX10_isSlot cX10_isSlot 1 (some .boolean) ∈ wAll := inA_wA_7 _ (List.mem_of_getElem? (i := 1) rfl)
theorem m_170 : Cond.fieldLink RX7 43 "CardBowl$Town" "houses" "I" ∈ wAll := inA_wA_7 _ (List.mem_of_getElem? (i := 2) rfl)
theorem m_171 : Cond.code yX7_has cX7_has 2 (some .boolean) ∈ wAll := inA_wA_7 _ (List.mem_of_getElem? (i := 3) rfl)
theorem m_172 : Cond.methodLink RX7 61 yX7_has ∈ wAll := inA_wA_7 _ (List.mem_of_getElem? (i := 4) rfl)
theorem m_173 : Cond.instanceMethod yX7_has ∈ wAll := inA_wA_7 _ (List.mem_of_getElem? (i := 5) rfl)
theorem m_174 : Cond.selects RX7 yX7_has yX7_has ∈ wAll := inA_wA_7 _ (List.mem_of_getElem? (i := 6) rfl)
theorem m_175 : Cond.code yX7_hasPair cX7_hasPair 3 (some .boolean) ∈ wAll := inA_wA_7 _ (List.mem_of_getElem? (i := 7) rfl)
theorem m_176 : Cond.fieldLink RX9 93 "CardBowl$State" "town" "LCardBowl$Town;" ∈ wAll := inA_wA_7 _ (List.mem_of_getElem? (i := 8) rfl)
theorem m_177 : Cond.methodLink RX9 126 yX7_hasPair ∈ wAll := inA_wA_7 _ (List.mem_of_getElem? (i := 9) rfl)
theorem m_178 : Cond.instanceMethod yX7_hasPair ∈ wAll := inA_wA_7 _ (List.mem_of_getElem? (i := 10) rfl)
theorem m_179 : Cond.selects RX7 yX7_hasPair yX7_hasPair ∈ wAll := inA_wA_7 _ (List.mem_of_getElem? (i := 11) rfl)
theorem m_180 : Cond.code yX9_isDeed cX9_isDeed 4 (some .boolean) ∈ wAll := inA_wA_7 _ (List.mem_of_getElem? (i := 12) rfl)
theorem m_181 : Cond.methodLink RX9 158 yX7_has ∈ wAll := inA_wA_7 _ (List.mem_of_getElem? (i := 13) rfl)
theorem m_182 : Cond.code yX9_isOuting cX9_isOuting 3 (some .boolean) ∈ wAll := inA_wA_7 _ (List.mem_of_getElem? (i := 14) rfl)
theorem m_183 : Cond.initialized RX9 ∈ wAll := inA_wA_7 _ (List.mem_of_getElem? (i := 15) rfl)
theorem m_184 : Cond.methodLink RX9 105 yX9_isDeed ∈ wAll := inA_wA_7 _ (List.mem_of_getElem? (i := 16) rfl)
theorem m_185 : Cond.instanceMethod yX9_isDeed ∈ wAll := inA_wA_7 _ (List.mem_of_getElem? (i := 17) rfl)
theorem m_186 : Cond.selects RX9 yX9_isDeed yX9_isDeed ∈ wAll := inA_wA_7 _ (List.mem_of_getElem? (i := 18) rfl)
theorem m_187 : Cond.code yX9_bars cX9_bars 4 (some .int) ∈ wAll := inA_wA_7 _ (List.mem_of_getElem? (i := 19) rfl)
theorem m_188 : Cond.code yX9_does cX9_does 4 (some .int) ∈ wAll := inA_wA_7 _ (List.mem_of_getElem? (i := 20) rfl)
theorem m_189 : Cond.code yX9_meet cX9_meet 3 (some .int) ∈ wAll := inA_wA_7 _ (List.mem_of_getElem? (i := 21) rfl)
theorem m_190 : Cond.code yX9_known cX9_known 3 (some .int) ∈ wAll := inA_wA_7 _ (List.mem_of_getElem? (i := 22) rfl)
theorem m_191 : Cond.code yX9_debts cX9_debts 2 (some .int) ∈ wAll := inA_wA_7 _ (List.mem_of_getElem? (i := 23) rfl)
theorem m_192 : Cond.code yX9_slights cX9_slights 2 (some .int) ∈ wAll := inA_wA_8 _ (List.mem_of_getElem? (i := 0) rfl)
theorem m_193 : Cond.code yX9_owes cX9_owes 4 (some .int) ∈ wAll := inA_wA_8 _ (List.mem_of_getElem? (i := 1) rfl)
theorem m_194 : Cond.methodLink RX9 191 yX9_isOuting ∈ wAll := inA_wA_8 _ (List.mem_of_getElem? (i := 2) rfl)
theorem m_195 : Cond.instanceMethod yX9_isOuting ∈ wAll := inA_wA_8 _ (List.mem_of_getElem? (i := 3) rfl)
theorem m_196 : Cond.selects RX9 yX9_isOuting yX9_isOuting ∈ wAll := inA_wA_8 _ (List.mem_of_getElem? (i := 4) rfl)
theorem m_197 : Cond.code yX9_worth cX9_worth 3 (some .int) ∈ wAll := inA_wA_8 _ (List.mem_of_getElem? (i := 5) rfl)
theorem m_198 : Cond.code yX9_round cX9_round 4 (some .int) ∈ wAll := inA_wA_8 _ (List.mem_of_getElem? (i := 6) rfl)
theorem m_199 : Cond.code yX9_over cX9_over 3 (some .int) ∈ wAll := inA_wA_8 _ (List.mem_of_getElem? (i := 7) rfl)
theorem m_200 : Cond.methodLink RX9 134 yX9_isSlot ∈ wAll := inA_wA_8 _ (List.mem_of_getElem? (i := 8) rfl)
theorem m_201 : Cond.static yX9_isSlot ∈ wAll := inA_wA_8 _ (List.mem_of_getElem? (i := 9) rfl)
theorem m_202 : Cond.code yX9_may cX9_may 5 (some .int) ∈ wAll := inA_wA_8 _ (List.mem_of_getElem? (i := 10) rfl)
theorem m_203 : Cond.code yX9_fewest cX9_fewest 2 (some .int) ∈ wAll := inA_wA_8 _ (List.mem_of_getElem? (i := 11) rfl)
theorem m_204 : Cond.code yX9_lost cX9_lost 2 (some .int) ∈ wAll := inA_wA_8 _ (List.mem_of_getElem? (i := 12) rfl)
theorem m_205 : Cond.code yX9_soon cX9_soon 3 (some .int) ∈ wAll := inA_wA_8 _ (List.mem_of_getElem? (i := 13) rfl)
theorem m_206 : Cond.code yX9_path cX9_path 4 (some .int) ∈ wAll := inA_wA_8 _ (List.mem_of_getElem? (i := 14) rfl)
theorem m_207 : Cond.code yX9_reach cX9_reach 2 (some .int) ∈ wAll := inA_wA_8 _ (List.mem_of_getElem? (i := 15) rfl)
theorem m_208 : Cond.code yX9_drop cX9_drop 5 (some .int) ∈ wAll := inA_wA_8 _ (List.mem_of_getElem? (i := 16) rfl)
theorem m_209 : Cond.code yX9_tie cX9_tie 3 (some .int) ∈ wAll := inA_wA_8 _ (List.mem_of_getElem? (i := 17) rfl)
theorem m_210 : Cond.code yX9_ring cX9_ring 2 (some .int) ∈ wAll := inA_wA_8 _ (List.mem_of_getElem? (i := 18) rfl)
theorem m_211 : Cond.code yX9_debt cX9_debt 5 (some .int) ∈ wAll := inA_wA_8 _ (List.mem_of_getElem? (i := 19) rfl)
theorem m_212 : Cond.fieldLink RX9 94 "CardBowl$Town" "houses" "I" ∈ wAll := inA_wA_8 _ (List.mem_of_getElem? (i := 20) rfl)
theorem m_213 : Cond.code yX9_first cX9_first 6 (some .int) ∈ wAll := inA_wA_8 _ (List.mem_of_getElem? (i := 21) rfl)
theorem m_214 : Cond.constant RX9 248 (-2000000000) ∈ wAll := inA_wA_8 _ (List.mem_of_getElem? (i := 22) rfl)
theorem m_215 : Cond.code yX9_house cX9_house 3 (some .int) ∈ wAll := inA_wA_8 _ (List.mem_of_getElem? (i := 23) rfl)
theorem m_216 : Cond.fieldLink RX9 63 "CardBowl" "tapeSize" "I" ∈ wAll := inA_wA_9 _ (List.mem_of_getElem? (i := 0) rfl)
theorem m_217 : Cond.code yX9_end cX9_end 2 (some .int) ∈ wAll := inA_wA_9 _ (List.mem_of_getElem? (i := 1) rfl)
theorem m_218 : Cond.fieldLink RX9 99 "CardBowl$Reader" "place" "I" ∈ wAll := inA_wA_9 _ (List.mem_of_getElem? (i := 2) rfl)
theorem m_219 : Cond.fieldLink RX9 75 "CardBowl$Reader" "fault" "I" ∈ wAll := inA_wA_9 _ (List.mem_of_getElem? (i := 3) rfl)
theorem m_220 : Cond.code yX9_fault cX9_fault 2 (some .int) ∈ wAll := inA_wA_9 _ (List.mem_of_getElem? (i := 4) rfl)
theorem m_221 : Cond.fieldLink RX9 330 "CardBowl$Rounds" "planned" "Z" ∈ wAll := inA_wA_9 _ (List.mem_of_getElem? (i := 5) rfl)
theorem m_222 : Cond.fieldLink RX9 333 "CardBowl$Ways" "sought" "Z" ∈ wAll := inA_wA_9 _ (List.mem_of_getElem? (i := 6) rfl)
theorem m_223 : Cond.code yX9_forget cX9_forget 1 none ∈ wAll := inA_wA_9 _ (List.mem_of_getElem? (i := 7) rfl)
theorem m_224 : Cond.fieldLink RX9 102 "CardBowl$State" "day" "I" ∈ wAll := inA_wA_9 _ (List.mem_of_getElem? (i := 8) rfl)
theorem m_225 : Cond.methodLink RX9 90 yX9_forget ∈ wAll := inA_wA_9 _ (List.mem_of_getElem? (i := 9) rfl)
theorem m_226 : Cond.instanceMethod yX9_forget ∈ wAll := inA_wA_9 _ (List.mem_of_getElem? (i := 10) rfl)
theorem m_227 : Cond.selects RX9 yX9_forget yX9_forget ∈ wAll := inA_wA_9 _ (List.mem_of_getElem? (i := 11) rfl)
theorem m_228 : Cond.code yX9_days cX9_days 2 (some .int) ∈ wAll := inA_wA_9 _ (List.mem_of_getElem? (i := 12) rfl)
theorem m_229 : Cond.methodLink RX9 271 yX9_isImage ∈ wAll := inA_wA_9 _ (List.mem_of_getElem? (i := 13) rfl)
theorem m_230 : Cond.static yX9_isImage ∈ wAll := inA_wA_9 _ (List.mem_of_getElem? (i := 14) rfl)
theorem m_231 : Cond.code yX9_beside cX9_beside 3 (some .int) ∈ wAll := inA_wA_9 _ (List.mem_of_getElem? (i := 15) rfl)
theorem m_232 : Cond.code yX9_back cX9_back 3 (some .int) ∈ wAll := inA_wA_9 _ (List.mem_of_getElem? (i := 16) rfl)
theorem m_233 : Cond.fieldLink RX9 138 "CardBowl$Slot" "filled" "Z" ∈ wAll := inA_wA_9 _ (List.mem_of_getElem? (i := 17) rfl)
theorem m_234 : Cond.code yX9_done cX9_done 9 (some .int) ∈ wAll := inA_wA_9 _ (List.mem_of_getElem? (i := 18) rfl)
theorem m_235 : Cond.code yX9_write cX9_write 6 (some .int) ∈ wAll := inA_wA_9 _ (List.mem_of_getElem? (i := 19) rfl)
theorem m_236 : Cond.code yX9_paste cX9_paste 8 (some .int) ∈ wAll := inA_wA_9 _ (List.mem_of_getElem? (i := 20) rfl)
theorem m_237 : Cond.code yJ7_fill_53178 cJ7_fill_53178 4 none ∈ wAll := inA_wA_9 _ (List.mem_of_getElem? (i := 21) rfl)
theorem m_238 : Cond.code yJ7_fill_d0a16 cJ7_fill_d0a16 5 none ∈ wAll := inA_wA_9 _ (List.mem_of_getElem? (i := 22) rfl)
theorem m_239 : Cond.fieldLink RX5 15 "CardBowl$Slot" "filled" "Z" ∈ wAll := inA_wA_9 _ (List.mem_of_getElem? (i := 23) rfl)
theorem m_240 : Cond.fieldLink RX5 19 "CardBowl$Slot" "width" "I" ∈ wAll := inA_wA_10 _ (List.mem_of_getElem? (i := 0) rfl)
theorem m_241 : Cond.fieldLink RX5 23 "CardBowl$Slot" "size" "I" ∈ wAll := inA_wA_10 _ (List.mem_of_getElem? (i := 1) rfl)
theorem m_242 : Cond.initialized RJ7 ∈ wAll := inA_wA_10 _ (List.mem_of_getElem? (i := 2) rfl)
theorem m_243 : Cond.methodLink RX5 26 yJ7_fill_d0a16 ∈ wAll := inA_wA_10 _ (List.mem_of_getElem? (i := 3) rfl)
theorem m_244 : Cond.static yJ7_fill_d0a16 ∈ wAll := inA_wA_10 _ (List.mem_of_getElem? (i := 4) rfl)
theorem m_245 : Cond.code yX5_lay cX5_lay 3 none ∈ wAll := inA_wA_10 _ (List.mem_of_getElem? (i := 5) rfl)
theorem m_246 : Cond.methodLink RX9 306 yX5_lay ∈ wAll := inA_wA_10 _ (List.mem_of_getElem? (i := 6) rfl)
theorem m_247 : Cond.instanceMethod yX5_lay ∈ wAll := inA_wA_10 _ (List.mem_of_getElem? (i := 7) rfl)
theorem m_248 : Cond.selects RX5 yX5_lay yX5_lay ∈ wAll := inA_wA_10 _ (List.mem_of_getElem? (i := 8) rfl)
theorem m_249 : Cond.code yX9_row cX9_row 4 (some .int) ∈ wAll := inA_wA_10 _ (List.mem_of_getElem? (i := 9) rfl)
theorem m_250 : Cond.code yX9_feedNumber cX9_feedNumber 3 none ∈ wAll := inA_wA_10 _ (List.mem_of_getElem? (i := 10) rfl)
theorem m_251 : Cond.methodLink RX9 67 yX9_feedNumber ∈ wAll := inA_wA_10 _ (List.mem_of_getElem? (i := 11) rfl)
theorem m_252 : Cond.instanceMethod yX9_feedNumber ∈ wAll := inA_wA_10 _ (List.mem_of_getElem? (i := 12) rfl)
theorem m_253 : Cond.selects RX9 yX9_feedNumber yX9_feedNumber ∈ wAll := inA_wA_10 _ (List.mem_of_getElem? (i := 13) rfl)
theorem m_254 : Cond.code yX9_feed cX9_feed 6 (some .int) ∈ wAll := inA_wA_10 _ (List.mem_of_getElem? (i := 14) rfl)
theorem m_255 : Cond.fieldLink RX6 56 "CardBowl$Deeds" "size" "I" ∈ wAll := inA_wA_10 _ (List.mem_of_getElem? (i := 15) rfl)
theorem m_256 : Cond.code yX6_followCalls cX6_followCalls 3 none ∈ wAll := inA_wA_10 _ (List.mem_of_getElem? (i := 16) rfl)
theorem m_257 : Cond.methodLink RX9 237 yX6_followCalls ∈ wAll := inA_wA_10 _ (List.mem_of_getElem? (i := 17) rfl)
theorem m_258 : Cond.instanceMethod yX6_followCalls ∈ wAll := inA_wA_10 _ (List.mem_of_getElem? (i := 18) rfl)
theorem m_259 : Cond.selects RX6 yX6_followCalls yX6_followCalls ∈ wAll := inA_wA_10 _ (List.mem_of_getElem? (i := 19) rfl)
theorem m_260 : Cond.code yX9_rings cX9_rings 4 (some .int) ∈ wAll := inA_wA_10 _ (List.mem_of_getElem? (i := 20) rfl)
theorem m_261 : Cond.fieldLink RX1 33 "CardBowl$Debts" "size" "I" ∈ wAll := inA_wA_10 _ (List.mem_of_getElem? (i := 21) rfl)
theorem m_262 : Cond.code yX1_overdue cX1_overdue 4 (some .int) ∈ wAll := inA_wA_10 _ (List.mem_of_getElem? (i := 22) rfl)
theorem m_263 : Cond.code yX9_filledSlots cX9_filledSlots 3 (some .int) ∈ wAll := inA_wA_10 _ (List.mem_of_getElem? (i := 23) rfl)
theorem m_264 : Cond.fieldLink RX9 274 "CardBowl$State" "code" "LCardBowl$Code;" ∈ wAll := inA_wA_11 _ (List.mem_of_getElem? (i := 0) rfl)
theorem m_265 : Cond.fieldLink RX9 280 "CardBowl$Code" "lines" "I" ∈ wAll := inA_wA_11 _ (List.mem_of_getElem? (i := 1) rfl)
theorem m_266 : Cond.fieldLink RX9 161 "CardBowl$State" "debts" "LCardBowl$Debts;" ∈ wAll := inA_wA_11 _ (List.mem_of_getElem? (i := 2) rfl)
theorem m_267 : Cond.fieldLink RX9 279 "CardBowl$Debts" "size" "I" ∈ wAll := inA_wA_11 _ (List.mem_of_getElem? (i := 3) rfl)
theorem m_268 : Cond.methodLink RX9 285 yX1_overdue ∈ wAll := inA_wA_11 _ (List.mem_of_getElem? (i := 4) rfl)
theorem m_269 : Cond.instanceMethod yX1_overdue ∈ wAll := inA_wA_11 _ (List.mem_of_getElem? (i := 5) rfl)
theorem m_270 : Cond.selects RX1 yX1_overdue yX1_overdue ∈ wAll := inA_wA_11 _ (List.mem_of_getElem? (i := 6) rfl)
theorem m_271 : Cond.fieldLink RX9 113 "CardBowl$State" "deeds" "LCardBowl$Deeds;" ∈ wAll := inA_wA_11 _ (List.mem_of_getElem? (i := 7) rfl)
theorem m_272 : Cond.fieldLink RX9 288 "CardBowl$Deeds" "size" "I" ∈ wAll := inA_wA_11 _ (List.mem_of_getElem? (i := 8) rfl)
theorem m_273 : Cond.fieldLink RX9 289 "CardBowl$State" "paid" "I" ∈ wAll := inA_wA_11 _ (List.mem_of_getElem? (i := 9) rfl)
theorem m_274 : Cond.fieldLink RX9 292 "CardBowl$Town" "introducers" "I" ∈ wAll := inA_wA_11 _ (List.mem_of_getElem? (i := 10) rfl)
theorem m_275 : Cond.fieldLink RX9 295 "CardBowl$Town" "fresh" "I" ∈ wAll := inA_wA_11 _ (List.mem_of_getElem? (i := 11) rfl)
theorem m_276 : Cond.methodLink RX9 298 yX9_filledSlots ∈ wAll := inA_wA_11 _ (List.mem_of_getElem? (i := 12) rfl)
theorem m_277 : Cond.instanceMethod yX9_filledSlots ∈ wAll := inA_wA_11 _ (List.mem_of_getElem? (i := 13) rfl)
theorem m_278 : Cond.selects RX9 yX9_filledSlots yX9_filledSlots ∈ wAll := inA_wA_11 _ (List.mem_of_getElem? (i := 14) rfl)
theorem m_279 : Cond.code yX9_count cX9_count 2 (some .int) ∈ wAll := inA_wA_11 _ (List.mem_of_getElem? (i := 15) rfl)
theorem m_280 : Cond.fieldLink RX7 46 "CardBowl$Town" "fresh" "I" ∈ wAll := inA_wA_11 _ (List.mem_of_getElem? (i := 16) rfl)
theorem m_281 : Cond.methodLink RX7 49 yJ7_fill_53178 ∈ wAll := inA_wA_11 _ (List.mem_of_getElem? (i := 17) rfl)
theorem m_282 : Cond.static yJ7_fill_53178 ∈ wAll := inA_wA_11 _ (List.mem_of_getElem? (i := 18) rfl)
theorem m_283 : Cond.code yX7_clear cX7_clear 1 none ∈ wAll := inA_wA_11 _ (List.mem_of_getElem? (i := 19) rfl)
theorem m_284 : Cond.fieldLink RX0 33 "CardBowl$Code" "lines" "I" ∈ wAll := inA_wA_11 _ (List.mem_of_getElem? (i := 20) rfl)
theorem m_285 : Cond.fieldLink RX0 37 "CardBowl$Code" "used" "I" ∈ wAll := inA_wA_11 _ (List.mem_of_getElem? (i := 21) rfl)
theorem m_286 : Cond.code yX0_clear cX0_clear 1 none ∈ wAll := inA_wA_11 _ (List.mem_of_getElem? (i := 22) rfl)
theorem m_287 : Cond.fieldLink RX3 42 "CardBowl$Reader" "next" "I" ∈ wAll := inA_wA_11 _ (List.mem_of_getElem? (i := 23) rfl)
theorem m_288 : Cond.fieldLink RX3 39 "CardBowl$Reader" "size" "I" ∈ wAll := inA_wA_12 _ (List.mem_of_getElem? (i := 0) rfl)
theorem m_289 : Cond.fieldLink RX3 179 "CardBowl$Reader" "begin" "I" ∈ wAll := inA_wA_12 _ (List.mem_of_getElem? (i := 1) rfl)
theorem m_290 : Cond.fieldLink RX3 55 "CardBowl$Reader" "kind" "I" ∈ wAll := inA_wA_12 _ (List.mem_of_getElem? (i := 2) rfl)
theorem m_291 : Cond.code yX3_advance cX3_advance 1 none ∈ wAll := inA_wA_12 _ (List.mem_of_getElem? (i := 3) rfl)
theorem m_292 : Cond.fieldLink RX3 29 "CardBowl$Reader" "text" "[B" ∈ wAll := inA_wA_12 _ (List.mem_of_getElem? (i := 4) rfl)
theorem m_293 : Cond.methodLink RX3 33 Lib.Math.min.name ∈ wAll := inA_wA_12 _ (List.mem_of_getElem? (i := 5) rfl)
theorem m_294 : Cond.static Lib.Math.min.name ∈ wAll := inA_wA_12 _ (List.mem_of_getElem? (i := 6) rfl)
theorem m_295 : Cond.initialized "java/lang/Math" ∈ wAll := inA_wA_12 _ (List.mem_of_getElem? (i := 7) rfl)
theorem m_296 : Cond.code Lib.Math.min.name Lib.Math.min.code 2 (some .int) ∈ wAll := inA_wA_12 _ (List.mem_of_getElem? (i := 8) rfl)
theorem m_297 : Cond.fieldLink RX3 45 "CardBowl$Reader" "fault" "I" ∈ wAll := inA_wA_12 _ (List.mem_of_getElem? (i := 9) rfl)
theorem m_298 : Cond.methodLink RX3 48 yX7_clear ∈ wAll := inA_wA_12 _ (List.mem_of_getElem? (i := 10) rfl)
theorem m_299 : Cond.instanceMethod yX7_clear ∈ wAll := inA_wA_12 _ (List.mem_of_getElem? (i := 11) rfl)
theorem m_300 : Cond.selects RX7 yX7_clear yX7_clear ∈ wAll := inA_wA_12 _ (List.mem_of_getElem? (i := 12) rfl)
theorem m_301 : Cond.methodLink RX3 51 yX0_clear ∈ wAll := inA_wA_12 _ (List.mem_of_getElem? (i := 13) rfl)
theorem m_302 : Cond.instanceMethod yX0_clear ∈ wAll := inA_wA_12 _ (List.mem_of_getElem? (i := 14) rfl)
theorem m_303 : Cond.selects RX0 yX0_clear yX0_clear ∈ wAll := inA_wA_12 _ (List.mem_of_getElem? (i := 15) rfl)
theorem m_304 : Cond.methodLink RX3 52 yX3_advance ∈ wAll := inA_wA_12 _ (List.mem_of_getElem? (i := 16) rfl)
theorem m_305 : Cond.instanceMethod yX3_advance ∈ wAll := inA_wA_12 _ (List.mem_of_getElem? (i := 17) rfl)
theorem m_306 : Cond.selects RX3 yX3_advance yX3_advance ∈ wAll := inA_wA_12 _ (List.mem_of_getElem? (i := 18) rfl)
theorem m_307 : Cond.code yX3_read cX3_read 5 none ∈ wAll := inA_wA_12 _ (List.mem_of_getElem? (i := 19) rfl)
theorem m_308 : Cond.methodLink RX7 55 arraycopyName ∈ wAll := inA_wA_12 _ (List.mem_of_getElem? (i := 20) rfl)
theorem m_309 : Cond.native arraycopyName ∈ wAll := inA_wA_12 _ (List.mem_of_getElem? (i := 21) rfl)
theorem m_310 : Cond.static arraycopyName ∈ wAll := inA_wA_12 _ (List.mem_of_getElem? (i := 22) rfl)
theorem m_311 : Cond.initialized "java/lang/System" ∈ wAll := inA_wA_12 _ (List.mem_of_getElem? (i := 23) rfl)
theorem m_312 : Cond.code yX7_copy cX7_copy 2 none ∈ wAll := inA_wA_13 _ (List.mem_of_getElem? (i := 0) rfl)
theorem m_313 : Cond.methodLink RX0 40 arraycopyName ∈ wAll := inA_wA_13 _ (List.mem_of_getElem? (i := 1) rfl)
theorem m_314 : Cond.code yX0_copy cX0_copy 2 none ∈ wAll := inA_wA_13 _ (List.mem_of_getElem? (i := 2) rfl)
theorem m_315 : Cond.methodLink RX1 37 yJ7_fill_53178 ∈ wAll := inA_wA_13 _ (List.mem_of_getElem? (i := 3) rfl)
theorem m_316 : Cond.code yX1_clear cX1_clear 1 none ∈ wAll := inA_wA_13 _ (List.mem_of_getElem? (i := 4) rfl)
theorem m_317 : Cond.methodLink RX1 43 arraycopyName ∈ wAll := inA_wA_13 _ (List.mem_of_getElem? (i := 5) rfl)
theorem m_318 : Cond.code yX1_copy cX1_copy 2 none ∈ wAll := inA_wA_13 _ (List.mem_of_getElem? (i := 6) rfl)
theorem m_319 : Cond.fieldLink RX2 24 "CardBowl$Deeds" "size" "I" ∈ wAll := inA_wA_13 _ (List.mem_of_getElem? (i := 7) rfl)
theorem m_320 : Cond.methodLink RX2 28 arraycopyName ∈ wAll := inA_wA_13 _ (List.mem_of_getElem? (i := 8) rfl)
theorem m_321 : Cond.code yX2_copy cX2_copy 2 none ∈ wAll := inA_wA_13 _ (List.mem_of_getElem? (i := 9) rfl)
theorem m_322 : Cond.methodLink RX6 46 yX7_copy ∈ wAll := inA_wA_13 _ (List.mem_of_getElem? (i := 10) rfl)
theorem m_323 : Cond.instanceMethod yX7_copy ∈ wAll := inA_wA_13 _ (List.mem_of_getElem? (i := 11) rfl)
theorem m_324 : Cond.selects RX7 yX7_copy yX7_copy ∈ wAll := inA_wA_13 _ (List.mem_of_getElem? (i := 12) rfl)
theorem m_325 : Cond.methodLink RX6 50 yX0_copy ∈ wAll := inA_wA_13 _ (List.mem_of_getElem? (i := 13) rfl)
theorem m_326 : Cond.instanceMethod yX0_copy ∈ wAll := inA_wA_13 _ (List.mem_of_getElem? (i := 14) rfl)
theorem m_327 : Cond.selects RX0 yX0_copy yX0_copy ∈ wAll := inA_wA_13 _ (List.mem_of_getElem? (i := 15) rfl)
theorem m_328 : Cond.methodLink RX6 53 yX1_clear ∈ wAll := inA_wA_13 _ (List.mem_of_getElem? (i := 16) rfl)
theorem m_329 : Cond.instanceMethod yX1_clear ∈ wAll := inA_wA_13 _ (List.mem_of_getElem? (i := 17) rfl)
theorem m_330 : Cond.selects RX1 yX1_clear yX1_clear ∈ wAll := inA_wA_13 _ (List.mem_of_getElem? (i := 18) rfl)
theorem m_331 : Cond.fieldLink RX6 60 "CardBowl$Town" "told" "[I" ∈ wAll := inA_wA_13 _ (List.mem_of_getElem? (i := 19) rfl)
theorem m_332 : Cond.methodLink RX6 63 arraycopyName ∈ wAll := inA_wA_13 _ (List.mem_of_getElem? (i := 20) rfl)
theorem m_333 : Cond.fieldLink RX6 69 "CardBowl$State" "day" "I" ∈ wAll := inA_wA_13 _ (List.mem_of_getElem? (i := 21) rfl)
theorem m_334 : Cond.fieldLink RX6 72 "CardBowl$State" "paid" "I" ∈ wAll := inA_wA_13 _ (List.mem_of_getElem? (i := 22) rfl)
theorem m_335 : Cond.code yX6_begin cX6_begin 3 none ∈ wAll := inA_wA_13 _ (List.mem_of_getElem? (i := 23) rfl)
theorem m_336 : Cond.methodLink RX9 71 yX3_read ∈ wAll := inA_wA_14 _ (List.mem_of_getElem? (i := 0) rfl)
theorem m_337 : Cond.instanceMethod yX3_read ∈ wAll := inA_wA_14 _ (List.mem_of_getElem? (i := 1) rfl)
theorem m_338 : Cond.selects RX3 yX3_read yX3_read ∈ wAll := inA_wA_14 _ (List.mem_of_getElem? (i := 2) rfl)
theorem m_339 : Cond.fieldLink RX9 78 "CardBowl$Reader" "town" "LCardBowl$Town;" ∈ wAll := inA_wA_14 _ (List.mem_of_getElem? (i := 3) rfl)
theorem m_340 : Cond.fieldLink RX9 82 "CardBowl$Reader" "code" "LCardBowl$Code;" ∈ wAll := inA_wA_14 _ (List.mem_of_getElem? (i := 4) rfl)
theorem m_341 : Cond.methodLink RX9 86 yX6_begin ∈ wAll := inA_wA_14 _ (List.mem_of_getElem? (i := 5) rfl)
theorem m_342 : Cond.instanceMethod yX6_begin ∈ wAll := inA_wA_14 _ (List.mem_of_getElem? (i := 6) rfl)
theorem m_343 : Cond.selects RX6 yX6_begin yX6_begin ∈ wAll := inA_wA_14 _ (List.mem_of_getElem? (i := 7) rfl)
theorem m_344 : Cond.code yX9_town cX9_town 1 (some .int) ∈ wAll := inA_wA_14 _ (List.mem_of_getElem? (i := 8) rfl)
theorem m_345 : Cond.methodLink RX6 75 yX1_copy ∈ wAll := inA_wA_14 _ (List.mem_of_getElem? (i := 9) rfl)
theorem m_346 : Cond.instanceMethod yX1_copy ∈ wAll := inA_wA_14 _ (List.mem_of_getElem? (i := 10) rfl)
theorem m_347 : Cond.selects RX1 yX1_copy yX1_copy ∈ wAll := inA_wA_14 _ (List.mem_of_getElem? (i := 11) rfl)
theorem m_348 : Cond.methodLink RX6 78 yX2_copy ∈ wAll := inA_wA_14 _ (List.mem_of_getElem? (i := 12) rfl)
theorem m_349 : Cond.instanceMethod yX2_copy ∈ wAll := inA_wA_14 _ (List.mem_of_getElem? (i := 13) rfl)
theorem m_350 : Cond.selects RX2 yX2_copy yX2_copy ∈ wAll := inA_wA_14 _ (List.mem_of_getElem? (i := 14) rfl)
theorem m_351 : Cond.code yX6_copy cX6_copy 2 none ∈ wAll := inA_wA_14 _ (List.mem_of_getElem? (i := 15) rfl)
theorem m_352 : Cond.methodLink RX9 302 yX6_copy ∈ wAll := inA_wA_14 _ (List.mem_of_getElem? (i := 16) rfl)
theorem m_353 : Cond.instanceMethod yX6_copy ∈ wAll := inA_wA_14 _ (List.mem_of_getElem? (i := 17) rfl)
theorem m_354 : Cond.selects RX6 yX6_copy yX6_copy ∈ wAll := inA_wA_14 _ (List.mem_of_getElem? (i := 18) rfl)
theorem m_355 : Cond.code yX9_keep cX9_keep 3 (some .int) ∈ wAll := inA_wA_14 _ (List.mem_of_getElem? (i := 19) rfl)
theorem m_356 : Cond.code yX10_isHouse cX10_isHouse 2 (some .boolean) ∈ wAll := inA_wA_14 _ (List.mem_of_getElem? (i := 20) rfl)
theorem m_357 : Cond.methodLink RX10 105 yX10_isHouse ∈ wAll := inA_wA_14 _ (List.mem_of_getElem? (i := 21) rfl)
theorem m_358 : Cond.instanceMethod yX10_isHouse ∈ wAll := inA_wA_14 _ (List.mem_of_getElem? (i := 22) rfl)
theorem m_359 : Cond.selects RX10 yX10_isHouse yX10_isHouse ∈ wAll := inA_wA_14 _ (List.mem_of_getElem? (i := 23) rfl)
theorem m_360 : Cond.code yX10_areTwo cX10_areTwo 3 (some .boolean) ∈ wAll := inA_wA_15 _ (List.mem_of_getElem? (i := 0) rfl)
theorem m_361 : Cond.code yX10_isRound cX10_isRound 3 (some .boolean) ∈ wAll := inA_wA_15 _ (List.mem_of_getElem? (i := 1) rfl)
theorem m_362 : Cond.methodLink RX10 315 yX10_areTwo ∈ wAll := inA_wA_15 _ (List.mem_of_getElem? (i := 2) rfl)
theorem m_363 : Cond.instanceMethod yX10_areTwo ∈ wAll := inA_wA_15 _ (List.mem_of_getElem? (i := 3) rfl)
theorem m_364 : Cond.selects RX10 yX10_areTwo yX10_areTwo ∈ wAll := inA_wA_15 _ (List.mem_of_getElem? (i := 4) rfl)
theorem m_365 : Cond.code yX10_bars cX10_bars 4 (some .int) ∈ wAll := inA_wA_15 _ (List.mem_of_getElem? (i := 5) rfl)
theorem m_366 : Cond.code yX10_does cX10_does 4 (some .int) ∈ wAll := inA_wA_15 _ (List.mem_of_getElem? (i := 6) rfl)
theorem m_367 : Cond.code yX10_meet cX10_meet 4 (some .int) ∈ wAll := inA_wA_15 _ (List.mem_of_getElem? (i := 7) rfl)
theorem m_368 : Cond.code yX10_known cX10_known 3 (some .int) ∈ wAll := inA_wA_15 _ (List.mem_of_getElem? (i := 8) rfl)
theorem m_369 : Cond.code yX10_debts cX10_debts 2 (some .int) ∈ wAll := inA_wA_15 _ (List.mem_of_getElem? (i := 9) rfl)
theorem m_370 : Cond.code yX10_slights cX10_slights 2 (some .int) ∈ wAll := inA_wA_15 _ (List.mem_of_getElem? (i := 10) rfl)
theorem m_371 : Cond.code yX10_owes cX10_owes 6 (some .int) ∈ wAll := inA_wA_15 _ (List.mem_of_getElem? (i := 11) rfl)
theorem m_372 : Cond.methodLink RX10 429 yX10_isRound ∈ wAll := inA_wA_15 _ (List.mem_of_getElem? (i := 12) rfl)
theorem m_373 : Cond.instanceMethod yX10_isRound ∈ wAll := inA_wA_15 _ (List.mem_of_getElem? (i := 13) rfl)
theorem m_374 : Cond.selects RX10 yX10_isRound yX10_isRound ∈ wAll := inA_wA_15 _ (List.mem_of_getElem? (i := 14) rfl)
theorem m_375 : Cond.code yX10_worth cX10_worth 3 (some .int) ∈ wAll := inA_wA_15 _ (List.mem_of_getElem? (i := 15) rfl)
theorem m_376 : Cond.code yX10_round cX10_round 5 (some .int) ∈ wAll := inA_wA_15 _ (List.mem_of_getElem? (i := 16) rfl)
theorem m_377 : Cond.code yX10_over cX10_over 3 (some .int) ∈ wAll := inA_wA_15 _ (List.mem_of_getElem? (i := 17) rfl)
theorem m_378 : Cond.methodLink RX10 371 yX10_isSlot ∈ wAll := inA_wA_15 _ (List.mem_of_getElem? (i := 18) rfl)
theorem m_379 : Cond.static yX10_isSlot ∈ wAll := inA_wA_15 _ (List.mem_of_getElem? (i := 19) rfl)
theorem m_380 : Cond.code yX10_may cX10_may 11 (some .int) ∈ wAll := inA_wA_15 _ (List.mem_of_getElem? (i := 20) rfl)
theorem m_381 : Cond.code yX10_fewest cX10_fewest 7 (some .int) ∈ wAll := inA_wA_15 _ (List.mem_of_getElem? (i := 21) rfl)
theorem m_382 : Cond.code yX10_lost cX10_lost 6 (some .int) ∈ wAll := inA_wA_15 _ (List.mem_of_getElem? (i := 22) rfl)
theorem m_383 : Cond.code yX10_soon cX10_soon 3 (some .int) ∈ wAll := inA_wA_15 _ (List.mem_of_getElem? (i := 23) rfl)
theorem m_384 : Cond.code yX10_path cX10_path 4 (some .int) ∈ wAll := inA_wA_16 _ (List.mem_of_getElem? (i := 0) rfl)
theorem m_385 : Cond.code yX10_reach cX10_reach 2 (some .int) ∈ wAll := inA_wA_16 _ (List.mem_of_getElem? (i := 1) rfl)
theorem m_386 : Cond.code yX10_drop cX10_drop 5 (some .int) ∈ wAll := inA_wA_16 _ (List.mem_of_getElem? (i := 2) rfl)
theorem m_387 : Cond.code yX10_tie cX10_tie 3 (some .int) ∈ wAll := inA_wA_16 _ (List.mem_of_getElem? (i := 3) rfl)
theorem m_388 : Cond.code yX10_ring cX10_ring 2 (some .int) ∈ wAll := inA_wA_16 _ (List.mem_of_getElem? (i := 4) rfl)
theorem m_389 : Cond.code yX10_debt cX10_debt 5 (some .int) ∈ wAll := inA_wA_16 _ (List.mem_of_getElem? (i := 5) rfl)
theorem m_390 : Cond.code yX10_first cX10_first 5 (some .int) ∈ wAll := inA_wA_16 _ (List.mem_of_getElem? (i := 6) rfl)
theorem m_391 : Cond.constant RX10 470 (-2000000000) ∈ wAll := inA_wA_16 _ (List.mem_of_getElem? (i := 7) rfl)
theorem m_392 : Cond.code yX10_house cX10_house 5 (some .int) ∈ wAll := inA_wA_16 _ (List.mem_of_getElem? (i := 8) rfl)
theorem m_393 : Cond.fieldLink RX10 109 "CardBowlModel" "taped" "I" ∈ wAll := inA_wA_16 _ (List.mem_of_getElem? (i := 9) rfl)
theorem m_394 : Cond.code yX10_end cX10_end 2 (some .int) ∈ wAll := inA_wA_16 _ (List.mem_of_getElem? (i := 10) rfl)
theorem m_395 : Cond.fieldLink RX10 145 "CardBowlModel" "faultKind" "I" ∈ wAll := inA_wA_16 _ (List.mem_of_getElem? (i := 11) rfl)
theorem m_396 : Cond.code yX10_fault cX10_fault 2 (some .int) ∈ wAll := inA_wA_16 _ (List.mem_of_getElem? (i := 12) rfl)
theorem m_397 : Cond.code yX10_today cX10_today 1 (some .int) ∈ wAll := inA_wA_16 _ (List.mem_of_getElem? (i := 13) rfl)
theorem m_398 : Cond.constantLong RX10 289 (60) ∈ wAll := inA_wA_16 _ (List.mem_of_getElem? (i := 14) rfl)
theorem m_399 : Cond.methodLink RX10 291 yX10_today ∈ wAll := inA_wA_16 _ (List.mem_of_getElem? (i := 15) rfl)
theorem m_400 : Cond.instanceMethod yX10_today ∈ wAll := inA_wA_16 _ (List.mem_of_getElem? (i := 16) rfl)
theorem m_401 : Cond.selects RX10 yX10_today yX10_today ∈ wAll := inA_wA_16 _ (List.mem_of_getElem? (i := 17) rfl)
theorem m_402 : Cond.code yX10_days cX10_days 2 (some .int) ∈ wAll := inA_wA_16 _ (List.mem_of_getElem? (i := 18) rfl)
theorem m_403 : Cond.constantLong RX10 99 (2) ∈ wAll := inA_wA_16 _ (List.mem_of_getElem? (i := 19) rfl)
theorem m_404 : Cond.code yX10_beside cX10_beside 5 (some .int) ∈ wAll := inA_wA_16 _ (List.mem_of_getElem? (i := 20) rfl)
theorem m_405 : Cond.code yX10_back cX10_back 3 (some .int) ∈ wAll := inA_wA_16 _ (List.mem_of_getElem? (i := 21) rfl)
theorem m_406 : Cond.code yX10_done cX10_done 11 (some .int) ∈ wAll := inA_wA_16 _ (List.mem_of_getElem? (i := 22) rfl)
theorem m_407 : Cond.code yX10_write cX10_write 5 (some .int) ∈ wAll := inA_wA_16 _ (List.mem_of_getElem? (i := 23) rfl)
theorem m_408 : Cond.code yX10_paste cX10_paste 7 (some .int) ∈ wAll := inA_wA_17 _ (List.mem_of_getElem? (i := 0) rfl)
theorem m_409 : Cond.code yX10_count cX10_count 4 (some .int) ∈ wAll := inA_wA_17 _ (List.mem_of_getElem? (i := 1) rfl)
theorem m_410 : Cond.code yX10_feed cX10_feed 7 (some .int) ∈ wAll := inA_wA_17 _ (List.mem_of_getElem? (i := 2) rfl)
theorem m_411 : Cond.code yX10_row cX10_row 5 (some .int) ∈ wAll := inA_wA_17 _ (List.mem_of_getElem? (i := 3) rfl)
theorem m_412 : Cond.code yX10_keep cX10_keep 3 (some .int) ∈ wAll := inA_wA_17 _ (List.mem_of_getElem? (i := 4) rfl)
theorem m_413 : Cond.code yX10_callsAll cX10_callsAll 2 none ∈ wAll := inA_wA_17 _ (List.mem_of_getElem? (i := 5) rfl)
theorem m_414 : Cond.methodLink RX10 462 yX10_callsAll ∈ wAll := inA_wA_17 _ (List.mem_of_getElem? (i := 6) rfl)
theorem m_415 : Cond.instanceMethod yX10_callsAll ∈ wAll := inA_wA_17 _ (List.mem_of_getElem? (i := 7) rfl)
theorem m_416 : Cond.selects RX10 yX10_callsAll yX10_callsAll ∈ wAll := inA_wA_17 _ (List.mem_of_getElem? (i := 8) rfl)
theorem m_417 : Cond.code yX10_rings cX10_rings 4 (some .int) ∈ wAll := inA_wA_17 _ (List.mem_of_getElem? (i := 9) rfl)
theorem m_418 : Cond.fieldLink RX10 112 "CardBowlModel" "size" "I" ∈ wAll := inA_wA_17 _ (List.mem_of_getElem? (i := 10) rfl)
theorem m_419 : Cond.code yX10_see cX10_see 2 (some .int) ∈ wAll := inA_wA_17 _ (List.mem_of_getElem? (i := 11) rfl)
theorem m_420 : Cond.code yX10_good cX10_good 1 (some .boolean) ∈ wAll := inA_wA_17 _ (List.mem_of_getElem? (i := 12) rfl)
theorem m_421 : Cond.fieldLink RX10 115 "CardBowlModel" "at" "I" ∈ wAll := inA_wA_17 _ (List.mem_of_getElem? (i := 13) rfl)
theorem m_422 : Cond.methodLink RX10 118 yX10_see ∈ wAll := inA_wA_17 _ (List.mem_of_getElem? (i := 14) rfl)
theorem m_423 : Cond.instanceMethod yX10_see ∈ wAll := inA_wA_17 _ (List.mem_of_getElem? (i := 15) rfl)
theorem m_424 : Cond.selects RX10 yX10_see yX10_see ∈ wAll := inA_wA_17 _ (List.mem_of_getElem? (i := 16) rfl)
theorem m_425 : Cond.fieldLink RX10 122 "CardBowlModel" "from" "I" ∈ wAll := inA_wA_17 _ (List.mem_of_getElem? (i := 17) rfl)
theorem m_426 : Cond.fieldLink RX10 125 "CardBowlModel" "token" "I" ∈ wAll := inA_wA_17 _ (List.mem_of_getElem? (i := 18) rfl)
theorem m_427 : Cond.code yX10_advance cX10_advance 2 none ∈ wAll := inA_wA_17 _ (List.mem_of_getElem? (i := 19) rfl)
theorem m_428 : Cond.code yX10_ofHouse cX10_ofHouse 3 (some .int) ∈ wAll := inA_wA_17 _ (List.mem_of_getElem? (i := 20) rfl)
theorem m_429 : Cond.methodLink RX10 166 yX10_advance ∈ wAll := inA_wA_17 _ (List.mem_of_getElem? (i := 21) rfl)
theorem m_430 : Cond.instanceMethod yX10_advance ∈ wAll := inA_wA_17 _ (List.mem_of_getElem? (i := 22) rfl)
theorem m_431 : Cond.selects RX10 yX10_advance yX10_advance ∈ wAll := inA_wA_17 _ (List.mem_of_getElem? (i := 23) rfl)
theorem m_432 : Cond.methodLink RX10 148 yX10_good ∈ wAll := inA_wA_18 _ (List.mem_of_getElem? (i := 0) rfl)
theorem m_433 : Cond.instanceMethod yX10_good ∈ wAll := inA_wA_18 _ (List.mem_of_getElem? (i := 1) rfl)
theorem m_434 : Cond.selects RX10 yX10_good yX10_good ∈ wAll := inA_wA_18 _ (List.mem_of_getElem? (i := 2) rfl)
theorem m_435 : Cond.methodLink RX10 286 yX10_ofHouse ∈ wAll := inA_wA_18 _ (List.mem_of_getElem? (i := 3) rfl)
theorem m_436 : Cond.instanceMethod yX10_ofHouse ∈ wAll := inA_wA_18 _ (List.mem_of_getElem? (i := 4) rfl)
theorem m_437 : Cond.selects RX10 yX10_ofHouse yX10_ofHouse ∈ wAll := inA_wA_18 _ (List.mem_of_getElem? (i := 5) rfl)
theorem m_438 : Cond.code yX10_town cX10_town 2 (some .int) ∈ wAll := inA_wA_18 _ (List.mem_of_getElem? (i := 6) rfl)
theorem m_439 : Cond.classLink RL 7 RX9 ∈ wAll := inA_wA_18 _ (List.mem_of_getElem? (i := 7) rfl)
theorem m_440 : Cond.instantiable RX9 10 ∈ wAll := inA_wA_18 _ (List.mem_of_getElem? (i := 8) rfl)
theorem m_441 : Cond.methodLink RL 9 yX9_init ∈ wAll := inA_wA_18 _ (List.mem_of_getElem? (i := 9) rfl)
theorem m_442 : Cond.instanceMethod yX9_init ∈ wAll := inA_wA_18 _ (List.mem_of_getElem? (i := 10) rfl)
theorem m_443 : Cond.classLink RL 10 RX10 ∈ wAll := inA_wA_18 _ (List.mem_of_getElem? (i := 11) rfl)
theorem m_444 : Cond.instantiable RX10 41 ∈ wAll := inA_wA_18 _ (List.mem_of_getElem? (i := 12) rfl)
theorem m_445 : Cond.methodLink RL 12 yX10_init ∈ wAll := inA_wA_18 _ (List.mem_of_getElem? (i := 13) rfl)
theorem m_446 : Cond.instanceMethod yX10_init ∈ wAll := inA_wA_18 _ (List.mem_of_getElem? (i := 14) rfl)
theorem m_447 : Cond.methodLink RL 13 yX9_feed ∈ wAll := inA_wA_18 _ (List.mem_of_getElem? (i := 15) rfl)
theorem m_448 : Cond.instanceMethod yX9_feed ∈ wAll := inA_wA_18 _ (List.mem_of_getElem? (i := 16) rfl)
theorem m_449 : Cond.selects RX9 yX9_feed yX9_feed ∈ wAll := inA_wA_18 _ (List.mem_of_getElem? (i := 17) rfl)
theorem m_450 : Cond.methodLink RL 17 yX10_feed ∈ wAll := inA_wA_18 _ (List.mem_of_getElem? (i := 18) rfl)
theorem m_451 : Cond.instanceMethod yX10_feed ∈ wAll := inA_wA_18 _ (List.mem_of_getElem? (i := 19) rfl)
theorem m_452 : Cond.selects RX10 yX10_feed yX10_feed ∈ wAll := inA_wA_18 _ (List.mem_of_getElem? (i := 20) rfl)
theorem m_453 : Cond.methodLink RL 18 yX9_end ∈ wAll := inA_wA_18 _ (List.mem_of_getElem? (i := 21) rfl)
theorem m_454 : Cond.instanceMethod yX9_end ∈ wAll := inA_wA_18 _ (List.mem_of_getElem? (i := 22) rfl)
theorem m_455 : Cond.selects RX9 yX9_end yX9_end ∈ wAll := inA_wA_18 _ (List.mem_of_getElem? (i := 23) rfl)
theorem m_456 : Cond.methodLink RL 22 yX10_end ∈ wAll := inA_wA_19 _ (List.mem_of_getElem? (i := 0) rfl)
theorem m_457 : Cond.instanceMethod yX10_end ∈ wAll := inA_wA_19 _ (List.mem_of_getElem? (i := 1) rfl)
theorem m_458 : Cond.selects RX10 yX10_end yX10_end ∈ wAll := inA_wA_19 _ (List.mem_of_getElem? (i := 2) rfl)
theorem m_459 : Cond.methodLink RL 23 yX9_town ∈ wAll := inA_wA_19 _ (List.mem_of_getElem? (i := 3) rfl)
theorem m_460 : Cond.instanceMethod yX9_town ∈ wAll := inA_wA_19 _ (List.mem_of_getElem? (i := 4) rfl)
theorem m_461 : Cond.selects RX9 yX9_town yX9_town ∈ wAll := inA_wA_19 _ (List.mem_of_getElem? (i := 5) rfl)
theorem m_462 : Cond.methodLink RL 27 yX10_town ∈ wAll := inA_wA_19 _ (List.mem_of_getElem? (i := 6) rfl)
theorem m_463 : Cond.instanceMethod yX10_town ∈ wAll := inA_wA_19 _ (List.mem_of_getElem? (i := 7) rfl)
theorem m_464 : Cond.selects RX10 yX10_town yX10_town ∈ wAll := inA_wA_19 _ (List.mem_of_getElem? (i := 8) rfl)
theorem m_465 : Cond.methodLink RL 28 yX9_fault ∈ wAll := inA_wA_19 _ (List.mem_of_getElem? (i := 9) rfl)
theorem m_466 : Cond.instanceMethod yX9_fault ∈ wAll := inA_wA_19 _ (List.mem_of_getElem? (i := 10) rfl)
theorem m_467 : Cond.selects RX9 yX9_fault yX9_fault ∈ wAll := inA_wA_19 _ (List.mem_of_getElem? (i := 11) rfl)
theorem m_468 : Cond.methodLink RL 31 yX10_fault ∈ wAll := inA_wA_19 _ (List.mem_of_getElem? (i := 12) rfl)
theorem m_469 : Cond.instanceMethod yX10_fault ∈ wAll := inA_wA_19 _ (List.mem_of_getElem? (i := 13) rfl)
theorem m_470 : Cond.selects RX10 yX10_fault yX10_fault ∈ wAll := inA_wA_19 _ (List.mem_of_getElem? (i := 14) rfl)
theorem m_471 : Cond.methodLink RL 32 yX9_days ∈ wAll := inA_wA_19 _ (List.mem_of_getElem? (i := 15) rfl)
theorem m_472 : Cond.instanceMethod yX9_days ∈ wAll := inA_wA_19 _ (List.mem_of_getElem? (i := 16) rfl)
theorem m_473 : Cond.selects RX9 yX9_days yX9_days ∈ wAll := inA_wA_19 _ (List.mem_of_getElem? (i := 17) rfl)
theorem m_474 : Cond.methodLink RL 35 yX10_days ∈ wAll := inA_wA_19 _ (List.mem_of_getElem? (i := 18) rfl)
theorem m_475 : Cond.instanceMethod yX10_days ∈ wAll := inA_wA_19 _ (List.mem_of_getElem? (i := 19) rfl)
theorem m_476 : Cond.selects RX10 yX10_days yX10_days ∈ wAll := inA_wA_19 _ (List.mem_of_getElem? (i := 20) rfl)
theorem m_477 : Cond.methodLink RL 36 yX9_bars ∈ wAll := inA_wA_19 _ (List.mem_of_getElem? (i := 21) rfl)
theorem m_478 : Cond.instanceMethod yX9_bars ∈ wAll := inA_wA_19 _ (List.mem_of_getElem? (i := 22) rfl)
theorem m_479 : Cond.selects RX9 yX9_bars yX9_bars ∈ wAll := inA_wA_19 _ (List.mem_of_getElem? (i := 23) rfl)
theorem m_480 : Cond.methodLink RL 40 yX10_bars ∈ wAll := inA_wA_20 _ (List.mem_of_getElem? (i := 0) rfl)
theorem m_481 : Cond.instanceMethod yX10_bars ∈ wAll := inA_wA_20 _ (List.mem_of_getElem? (i := 1) rfl)
theorem m_482 : Cond.selects RX10 yX10_bars yX10_bars ∈ wAll := inA_wA_20 _ (List.mem_of_getElem? (i := 2) rfl)
theorem m_483 : Cond.methodLink RL 41 yX9_does ∈ wAll := inA_wA_20 _ (List.mem_of_getElem? (i := 3) rfl)
theorem m_484 : Cond.instanceMethod yX9_does ∈ wAll := inA_wA_20 _ (List.mem_of_getElem? (i := 4) rfl)
theorem m_485 : Cond.selects RX9 yX9_does yX9_does ∈ wAll := inA_wA_20 _ (List.mem_of_getElem? (i := 5) rfl)
theorem m_486 : Cond.methodLink RL 44 yX10_does ∈ wAll := inA_wA_20 _ (List.mem_of_getElem? (i := 6) rfl)
theorem m_487 : Cond.instanceMethod yX10_does ∈ wAll := inA_wA_20 _ (List.mem_of_getElem? (i := 7) rfl)
theorem m_488 : Cond.selects RX10 yX10_does yX10_does ∈ wAll := inA_wA_20 _ (List.mem_of_getElem? (i := 8) rfl)
theorem m_489 : Cond.methodLink RL 45 yX9_meet ∈ wAll := inA_wA_20 _ (List.mem_of_getElem? (i := 9) rfl)
theorem m_490 : Cond.instanceMethod yX9_meet ∈ wAll := inA_wA_20 _ (List.mem_of_getElem? (i := 10) rfl)
theorem m_491 : Cond.selects RX9 yX9_meet yX9_meet ∈ wAll := inA_wA_20 _ (List.mem_of_getElem? (i := 11) rfl)
theorem m_492 : Cond.methodLink RL 49 yX10_meet ∈ wAll := inA_wA_20 _ (List.mem_of_getElem? (i := 12) rfl)
theorem m_493 : Cond.instanceMethod yX10_meet ∈ wAll := inA_wA_20 _ (List.mem_of_getElem? (i := 13) rfl)
theorem m_494 : Cond.selects RX10 yX10_meet yX10_meet ∈ wAll := inA_wA_20 _ (List.mem_of_getElem? (i := 14) rfl)
theorem m_495 : Cond.methodLink RL 50 yX9_done ∈ wAll := inA_wA_20 _ (List.mem_of_getElem? (i := 15) rfl)
theorem m_496 : Cond.instanceMethod yX9_done ∈ wAll := inA_wA_20 _ (List.mem_of_getElem? (i := 16) rfl)
theorem m_497 : Cond.selects RX9 yX9_done yX9_done ∈ wAll := inA_wA_20 _ (List.mem_of_getElem? (i := 17) rfl)
theorem m_498 : Cond.methodLink RL 53 yX10_done ∈ wAll := inA_wA_20 _ (List.mem_of_getElem? (i := 18) rfl)
theorem m_499 : Cond.instanceMethod yX10_done ∈ wAll := inA_wA_20 _ (List.mem_of_getElem? (i := 19) rfl)
theorem m_500 : Cond.selects RX10 yX10_done yX10_done ∈ wAll := inA_wA_20 _ (List.mem_of_getElem? (i := 20) rfl)
theorem m_501 : Cond.methodLink RL 54 yX9_known ∈ wAll := inA_wA_20 _ (List.mem_of_getElem? (i := 21) rfl)
theorem m_502 : Cond.instanceMethod yX9_known ∈ wAll := inA_wA_20 _ (List.mem_of_getElem? (i := 22) rfl)
theorem m_503 : Cond.selects RX9 yX9_known yX9_known ∈ wAll := inA_wA_20 _ (List.mem_of_getElem? (i := 23) rfl)
theorem m_504 : Cond.methodLink RL 57 yX10_known ∈ wAll := inA_wA_21 _ (List.mem_of_getElem? (i := 0) rfl)
theorem m_505 : Cond.instanceMethod yX10_known ∈ wAll := inA_wA_21 _ (List.mem_of_getElem? (i := 1) rfl)
theorem m_506 : Cond.selects RX10 yX10_known yX10_known ∈ wAll := inA_wA_21 _ (List.mem_of_getElem? (i := 2) rfl)
theorem m_507 : Cond.methodLink RL 58 yX9_debts ∈ wAll := inA_wA_21 _ (List.mem_of_getElem? (i := 3) rfl)
theorem m_508 : Cond.instanceMethod yX9_debts ∈ wAll := inA_wA_21 _ (List.mem_of_getElem? (i := 4) rfl)
theorem m_509 : Cond.selects RX9 yX9_debts yX9_debts ∈ wAll := inA_wA_21 _ (List.mem_of_getElem? (i := 5) rfl)
theorem m_510 : Cond.methodLink RL 61 yX10_debts ∈ wAll := inA_wA_21 _ (List.mem_of_getElem? (i := 6) rfl)
theorem m_511 : Cond.instanceMethod yX10_debts ∈ wAll := inA_wA_21 _ (List.mem_of_getElem? (i := 7) rfl)
theorem m_512 : Cond.selects RX10 yX10_debts yX10_debts ∈ wAll := inA_wA_21 _ (List.mem_of_getElem? (i := 8) rfl)
theorem m_513 : Cond.methodLink RL 62 yX9_debt ∈ wAll := inA_wA_21 _ (List.mem_of_getElem? (i := 9) rfl)
theorem m_514 : Cond.instanceMethod yX9_debt ∈ wAll := inA_wA_21 _ (List.mem_of_getElem? (i := 10) rfl)
theorem m_515 : Cond.selects RX9 yX9_debt yX9_debt ∈ wAll := inA_wA_21 _ (List.mem_of_getElem? (i := 11) rfl)
theorem m_516 : Cond.methodLink RL 65 yX10_debt ∈ wAll := inA_wA_21 _ (List.mem_of_getElem? (i := 12) rfl)
theorem m_517 : Cond.instanceMethod yX10_debt ∈ wAll := inA_wA_21 _ (List.mem_of_getElem? (i := 13) rfl)
theorem m_518 : Cond.selects RX10 yX10_debt yX10_debt ∈ wAll := inA_wA_21 _ (List.mem_of_getElem? (i := 14) rfl)
theorem m_519 : Cond.methodLink RL 66 yX9_slights ∈ wAll := inA_wA_21 _ (List.mem_of_getElem? (i := 15) rfl)
theorem m_520 : Cond.instanceMethod yX9_slights ∈ wAll := inA_wA_21 _ (List.mem_of_getElem? (i := 16) rfl)
theorem m_521 : Cond.selects RX9 yX9_slights yX9_slights ∈ wAll := inA_wA_21 _ (List.mem_of_getElem? (i := 17) rfl)
theorem m_522 : Cond.methodLink RL 69 yX10_slights ∈ wAll := inA_wA_21 _ (List.mem_of_getElem? (i := 18) rfl)
theorem m_523 : Cond.instanceMethod yX10_slights ∈ wAll := inA_wA_21 _ (List.mem_of_getElem? (i := 19) rfl)
theorem m_524 : Cond.selects RX10 yX10_slights yX10_slights ∈ wAll := inA_wA_21 _ (List.mem_of_getElem? (i := 20) rfl)
theorem m_525 : Cond.methodLink RL 70 yX9_first ∈ wAll := inA_wA_21 _ (List.mem_of_getElem? (i := 21) rfl)
theorem m_526 : Cond.instanceMethod yX9_first ∈ wAll := inA_wA_21 _ (List.mem_of_getElem? (i := 22) rfl)
theorem m_527 : Cond.selects RX9 yX9_first yX9_first ∈ wAll := inA_wA_21 _ (List.mem_of_getElem? (i := 23) rfl)
theorem m_528 : Cond.methodLink RL 73 yX10_first ∈ wAll := inA_wA_22 _ (List.mem_of_getElem? (i := 0) rfl)
theorem m_529 : Cond.instanceMethod yX10_first ∈ wAll := inA_wA_22 _ (List.mem_of_getElem? (i := 1) rfl)
theorem m_530 : Cond.selects RX10 yX10_first yX10_first ∈ wAll := inA_wA_22 _ (List.mem_of_getElem? (i := 2) rfl)
theorem m_531 : Cond.methodLink RL 74 yX9_owes ∈ wAll := inA_wA_22 _ (List.mem_of_getElem? (i := 3) rfl)
theorem m_532 : Cond.instanceMethod yX9_owes ∈ wAll := inA_wA_22 _ (List.mem_of_getElem? (i := 4) rfl)
theorem m_533 : Cond.selects RX9 yX9_owes yX9_owes ∈ wAll := inA_wA_22 _ (List.mem_of_getElem? (i := 5) rfl)
theorem m_534 : Cond.methodLink RL 77 yX10_owes ∈ wAll := inA_wA_22 _ (List.mem_of_getElem? (i := 6) rfl)
theorem m_535 : Cond.instanceMethod yX10_owes ∈ wAll := inA_wA_22 _ (List.mem_of_getElem? (i := 7) rfl)
theorem m_536 : Cond.selects RX10 yX10_owes yX10_owes ∈ wAll := inA_wA_22 _ (List.mem_of_getElem? (i := 8) rfl)
theorem m_537 : Cond.methodLink RL 78 yX9_worth ∈ wAll := inA_wA_22 _ (List.mem_of_getElem? (i := 9) rfl)
theorem m_538 : Cond.instanceMethod yX9_worth ∈ wAll := inA_wA_22 _ (List.mem_of_getElem? (i := 10) rfl)
theorem m_539 : Cond.selects RX9 yX9_worth yX9_worth ∈ wAll := inA_wA_22 _ (List.mem_of_getElem? (i := 11) rfl)
theorem m_540 : Cond.methodLink RL 81 yX10_worth ∈ wAll := inA_wA_22 _ (List.mem_of_getElem? (i := 12) rfl)
theorem m_541 : Cond.instanceMethod yX10_worth ∈ wAll := inA_wA_22 _ (List.mem_of_getElem? (i := 13) rfl)
theorem m_542 : Cond.selects RX10 yX10_worth yX10_worth ∈ wAll := inA_wA_22 _ (List.mem_of_getElem? (i := 14) rfl)
theorem m_543 : Cond.methodLink RL 82 yX9_round ∈ wAll := inA_wA_22 _ (List.mem_of_getElem? (i := 15) rfl)
theorem m_544 : Cond.instanceMethod yX9_round ∈ wAll := inA_wA_22 _ (List.mem_of_getElem? (i := 16) rfl)
theorem m_545 : Cond.selects RX9 yX9_round yX9_round ∈ wAll := inA_wA_22 _ (List.mem_of_getElem? (i := 17) rfl)
theorem m_546 : Cond.methodLink RL 85 yX10_round ∈ wAll := inA_wA_22 _ (List.mem_of_getElem? (i := 18) rfl)
theorem m_547 : Cond.instanceMethod yX10_round ∈ wAll := inA_wA_22 _ (List.mem_of_getElem? (i := 19) rfl)
theorem m_548 : Cond.selects RX10 yX10_round yX10_round ∈ wAll := inA_wA_22 _ (List.mem_of_getElem? (i := 20) rfl)
theorem m_549 : Cond.methodLink RL 86 yX9_over ∈ wAll := inA_wA_22 _ (List.mem_of_getElem? (i := 21) rfl)
theorem m_550 : Cond.instanceMethod yX9_over ∈ wAll := inA_wA_22 _ (List.mem_of_getElem? (i := 22) rfl)
theorem m_551 : Cond.selects RX9 yX9_over yX9_over ∈ wAll := inA_wA_22 _ (List.mem_of_getElem? (i := 23) rfl)
theorem m_552 : Cond.methodLink RL 89 yX10_over ∈ wAll := inA_wA_23 _ (List.mem_of_getElem? (i := 0) rfl)
theorem m_553 : Cond.instanceMethod yX10_over ∈ wAll := inA_wA_23 _ (List.mem_of_getElem? (i := 1) rfl)
theorem m_554 : Cond.selects RX10 yX10_over yX10_over ∈ wAll := inA_wA_23 _ (List.mem_of_getElem? (i := 2) rfl)
theorem m_555 : Cond.methodLink RL 90 yX9_may ∈ wAll := inA_wA_23 _ (List.mem_of_getElem? (i := 3) rfl)
theorem m_556 : Cond.instanceMethod yX9_may ∈ wAll := inA_wA_23 _ (List.mem_of_getElem? (i := 4) rfl)
theorem m_557 : Cond.selects RX9 yX9_may yX9_may ∈ wAll := inA_wA_23 _ (List.mem_of_getElem? (i := 5) rfl)
theorem m_558 : Cond.methodLink RL 93 yX10_may ∈ wAll := inA_wA_23 _ (List.mem_of_getElem? (i := 6) rfl)
theorem m_559 : Cond.instanceMethod yX10_may ∈ wAll := inA_wA_23 _ (List.mem_of_getElem? (i := 7) rfl)
theorem m_560 : Cond.selects RX10 yX10_may yX10_may ∈ wAll := inA_wA_23 _ (List.mem_of_getElem? (i := 8) rfl)
theorem m_561 : Cond.methodLink RL 94 yX9_fewest ∈ wAll := inA_wA_23 _ (List.mem_of_getElem? (i := 9) rfl)
theorem m_562 : Cond.instanceMethod yX9_fewest ∈ wAll := inA_wA_23 _ (List.mem_of_getElem? (i := 10) rfl)
theorem m_563 : Cond.selects RX9 yX9_fewest yX9_fewest ∈ wAll := inA_wA_23 _ (List.mem_of_getElem? (i := 11) rfl)
theorem m_564 : Cond.methodLink RL 97 yX10_fewest ∈ wAll := inA_wA_23 _ (List.mem_of_getElem? (i := 12) rfl)
theorem m_565 : Cond.instanceMethod yX10_fewest ∈ wAll := inA_wA_23 _ (List.mem_of_getElem? (i := 13) rfl)
theorem m_566 : Cond.selects RX10 yX10_fewest yX10_fewest ∈ wAll := inA_wA_23 _ (List.mem_of_getElem? (i := 14) rfl)
theorem m_567 : Cond.methodLink RL 98 yX9_lost ∈ wAll := inA_wA_23 _ (List.mem_of_getElem? (i := 15) rfl)
theorem m_568 : Cond.instanceMethod yX9_lost ∈ wAll := inA_wA_23 _ (List.mem_of_getElem? (i := 16) rfl)
theorem m_569 : Cond.selects RX9 yX9_lost yX9_lost ∈ wAll := inA_wA_23 _ (List.mem_of_getElem? (i := 17) rfl)
theorem m_570 : Cond.methodLink RL 101 yX10_lost ∈ wAll := inA_wA_23 _ (List.mem_of_getElem? (i := 18) rfl)
theorem m_571 : Cond.instanceMethod yX10_lost ∈ wAll := inA_wA_23 _ (List.mem_of_getElem? (i := 19) rfl)
theorem m_572 : Cond.selects RX10 yX10_lost yX10_lost ∈ wAll := inA_wA_23 _ (List.mem_of_getElem? (i := 20) rfl)
theorem m_573 : Cond.methodLink RL 102 yX9_soon ∈ wAll := inA_wA_23 _ (List.mem_of_getElem? (i := 21) rfl)
theorem m_574 : Cond.instanceMethod yX9_soon ∈ wAll := inA_wA_23 _ (List.mem_of_getElem? (i := 22) rfl)
theorem m_575 : Cond.selects RX9 yX9_soon yX9_soon ∈ wAll := inA_wA_23 _ (List.mem_of_getElem? (i := 23) rfl)
theorem m_576 : Cond.methodLink RL 105 yX10_soon ∈ wAll := inA_wA_24 _ (List.mem_of_getElem? (i := 0) rfl)
theorem m_577 : Cond.instanceMethod yX10_soon ∈ wAll := inA_wA_24 _ (List.mem_of_getElem? (i := 1) rfl)
theorem m_578 : Cond.selects RX10 yX10_soon yX10_soon ∈ wAll := inA_wA_24 _ (List.mem_of_getElem? (i := 2) rfl)
theorem m_579 : Cond.methodLink RL 106 yX9_path ∈ wAll := inA_wA_24 _ (List.mem_of_getElem? (i := 3) rfl)
theorem m_580 : Cond.instanceMethod yX9_path ∈ wAll := inA_wA_24 _ (List.mem_of_getElem? (i := 4) rfl)
theorem m_581 : Cond.selects RX9 yX9_path yX9_path ∈ wAll := inA_wA_24 _ (List.mem_of_getElem? (i := 5) rfl)
theorem m_582 : Cond.methodLink RL 109 yX10_path ∈ wAll := inA_wA_24 _ (List.mem_of_getElem? (i := 6) rfl)
theorem m_583 : Cond.instanceMethod yX10_path ∈ wAll := inA_wA_24 _ (List.mem_of_getElem? (i := 7) rfl)
theorem m_584 : Cond.selects RX10 yX10_path yX10_path ∈ wAll := inA_wA_24 _ (List.mem_of_getElem? (i := 8) rfl)
theorem m_585 : Cond.methodLink RL 110 yX9_reach ∈ wAll := inA_wA_24 _ (List.mem_of_getElem? (i := 9) rfl)
theorem m_586 : Cond.instanceMethod yX9_reach ∈ wAll := inA_wA_24 _ (List.mem_of_getElem? (i := 10) rfl)
theorem m_587 : Cond.selects RX9 yX9_reach yX9_reach ∈ wAll := inA_wA_24 _ (List.mem_of_getElem? (i := 11) rfl)
theorem m_588 : Cond.methodLink RL 113 yX10_reach ∈ wAll := inA_wA_24 _ (List.mem_of_getElem? (i := 12) rfl)
theorem m_589 : Cond.instanceMethod yX10_reach ∈ wAll := inA_wA_24 _ (List.mem_of_getElem? (i := 13) rfl)
theorem m_590 : Cond.selects RX10 yX10_reach yX10_reach ∈ wAll := inA_wA_24 _ (List.mem_of_getElem? (i := 14) rfl)
theorem m_591 : Cond.methodLink RL 114 yX9_drop ∈ wAll := inA_wA_24 _ (List.mem_of_getElem? (i := 15) rfl)
theorem m_592 : Cond.instanceMethod yX9_drop ∈ wAll := inA_wA_24 _ (List.mem_of_getElem? (i := 16) rfl)
theorem m_593 : Cond.selects RX9 yX9_drop yX9_drop ∈ wAll := inA_wA_24 _ (List.mem_of_getElem? (i := 17) rfl)
theorem m_594 : Cond.methodLink RL 117 yX10_drop ∈ wAll := inA_wA_24 _ (List.mem_of_getElem? (i := 18) rfl)
theorem m_595 : Cond.instanceMethod yX10_drop ∈ wAll := inA_wA_24 _ (List.mem_of_getElem? (i := 19) rfl)
theorem m_596 : Cond.selects RX10 yX10_drop yX10_drop ∈ wAll := inA_wA_24 _ (List.mem_of_getElem? (i := 20) rfl)
theorem m_597 : Cond.methodLink RL 118 yX9_tie ∈ wAll := inA_wA_24 _ (List.mem_of_getElem? (i := 21) rfl)
theorem m_598 : Cond.instanceMethod yX9_tie ∈ wAll := inA_wA_24 _ (List.mem_of_getElem? (i := 22) rfl)
theorem m_599 : Cond.selects RX9 yX9_tie yX9_tie ∈ wAll := inA_wA_24 _ (List.mem_of_getElem? (i := 23) rfl)
theorem m_600 : Cond.methodLink RL 121 yX10_tie ∈ wAll := inA_wA_25 _ (List.mem_of_getElem? (i := 0) rfl)
theorem m_601 : Cond.instanceMethod yX10_tie ∈ wAll := inA_wA_25 _ (List.mem_of_getElem? (i := 1) rfl)
theorem m_602 : Cond.selects RX10 yX10_tie yX10_tie ∈ wAll := inA_wA_25 _ (List.mem_of_getElem? (i := 2) rfl)
theorem m_603 : Cond.methodLink RL 122 yX9_rings ∈ wAll := inA_wA_25 _ (List.mem_of_getElem? (i := 3) rfl)
theorem m_604 : Cond.instanceMethod yX9_rings ∈ wAll := inA_wA_25 _ (List.mem_of_getElem? (i := 4) rfl)
theorem m_605 : Cond.selects RX9 yX9_rings yX9_rings ∈ wAll := inA_wA_25 _ (List.mem_of_getElem? (i := 5) rfl)
theorem m_606 : Cond.methodLink RL 125 yX10_rings ∈ wAll := inA_wA_25 _ (List.mem_of_getElem? (i := 6) rfl)
theorem m_607 : Cond.instanceMethod yX10_rings ∈ wAll := inA_wA_25 _ (List.mem_of_getElem? (i := 7) rfl)
theorem m_608 : Cond.selects RX10 yX10_rings yX10_rings ∈ wAll := inA_wA_25 _ (List.mem_of_getElem? (i := 8) rfl)
theorem m_609 : Cond.methodLink RL 126 yX9_ring ∈ wAll := inA_wA_25 _ (List.mem_of_getElem? (i := 9) rfl)
theorem m_610 : Cond.instanceMethod yX9_ring ∈ wAll := inA_wA_25 _ (List.mem_of_getElem? (i := 10) rfl)
theorem m_611 : Cond.selects RX9 yX9_ring yX9_ring ∈ wAll := inA_wA_25 _ (List.mem_of_getElem? (i := 11) rfl)
theorem m_612 : Cond.methodLink RL 129 yX10_ring ∈ wAll := inA_wA_25 _ (List.mem_of_getElem? (i := 12) rfl)
theorem m_613 : Cond.instanceMethod yX10_ring ∈ wAll := inA_wA_25 _ (List.mem_of_getElem? (i := 13) rfl)
theorem m_614 : Cond.selects RX10 yX10_ring yX10_ring ∈ wAll := inA_wA_25 _ (List.mem_of_getElem? (i := 14) rfl)
theorem m_615 : Cond.methodLink RL 130 yX9_house ∈ wAll := inA_wA_25 _ (List.mem_of_getElem? (i := 15) rfl)
theorem m_616 : Cond.instanceMethod yX9_house ∈ wAll := inA_wA_25 _ (List.mem_of_getElem? (i := 16) rfl)
theorem m_617 : Cond.selects RX9 yX9_house yX9_house ∈ wAll := inA_wA_25 _ (List.mem_of_getElem? (i := 17) rfl)
theorem m_618 : Cond.methodLink RL 133 yX10_house ∈ wAll := inA_wA_25 _ (List.mem_of_getElem? (i := 18) rfl)
theorem m_619 : Cond.instanceMethod yX10_house ∈ wAll := inA_wA_25 _ (List.mem_of_getElem? (i := 19) rfl)
theorem m_620 : Cond.selects RX10 yX10_house yX10_house ∈ wAll := inA_wA_25 _ (List.mem_of_getElem? (i := 20) rfl)
theorem m_621 : Cond.methodLink RL 134 yX9_beside ∈ wAll := inA_wA_25 _ (List.mem_of_getElem? (i := 21) rfl)
theorem m_622 : Cond.instanceMethod yX9_beside ∈ wAll := inA_wA_25 _ (List.mem_of_getElem? (i := 22) rfl)
theorem m_623 : Cond.selects RX9 yX9_beside yX9_beside ∈ wAll := inA_wA_25 _ (List.mem_of_getElem? (i := 23) rfl)
theorem m_624 : Cond.methodLink RL 137 yX10_beside ∈ wAll := inA_wA_26 _ (List.mem_of_getElem? (i := 0) rfl)
theorem m_625 : Cond.instanceMethod yX10_beside ∈ wAll := inA_wA_26 _ (List.mem_of_getElem? (i := 1) rfl)
theorem m_626 : Cond.selects RX10 yX10_beside yX10_beside ∈ wAll := inA_wA_26 _ (List.mem_of_getElem? (i := 2) rfl)
theorem m_627 : Cond.methodLink RL 138 yX9_count ∈ wAll := inA_wA_26 _ (List.mem_of_getElem? (i := 3) rfl)
theorem m_628 : Cond.instanceMethod yX9_count ∈ wAll := inA_wA_26 _ (List.mem_of_getElem? (i := 4) rfl)
theorem m_629 : Cond.selects RX9 yX9_count yX9_count ∈ wAll := inA_wA_26 _ (List.mem_of_getElem? (i := 5) rfl)
theorem m_630 : Cond.methodLink RL 141 yX10_count ∈ wAll := inA_wA_26 _ (List.mem_of_getElem? (i := 6) rfl)
theorem m_631 : Cond.instanceMethod yX10_count ∈ wAll := inA_wA_26 _ (List.mem_of_getElem? (i := 7) rfl)
theorem m_632 : Cond.selects RX10 yX10_count yX10_count ∈ wAll := inA_wA_26 _ (List.mem_of_getElem? (i := 8) rfl)
theorem m_633 : Cond.methodLink RL 142 yX9_keep ∈ wAll := inA_wA_26 _ (List.mem_of_getElem? (i := 9) rfl)
theorem m_634 : Cond.instanceMethod yX9_keep ∈ wAll := inA_wA_26 _ (List.mem_of_getElem? (i := 10) rfl)
theorem m_635 : Cond.selects RX9 yX9_keep yX9_keep ∈ wAll := inA_wA_26 _ (List.mem_of_getElem? (i := 11) rfl)
theorem m_636 : Cond.methodLink RL 145 yX10_keep ∈ wAll := inA_wA_26 _ (List.mem_of_getElem? (i := 12) rfl)
theorem m_637 : Cond.instanceMethod yX10_keep ∈ wAll := inA_wA_26 _ (List.mem_of_getElem? (i := 13) rfl)
theorem m_638 : Cond.selects RX10 yX10_keep yX10_keep ∈ wAll := inA_wA_26 _ (List.mem_of_getElem? (i := 14) rfl)
theorem m_639 : Cond.methodLink RL 146 yX9_back ∈ wAll := inA_wA_26 _ (List.mem_of_getElem? (i := 15) rfl)
theorem m_640 : Cond.instanceMethod yX9_back ∈ wAll := inA_wA_26 _ (List.mem_of_getElem? (i := 16) rfl)
theorem m_641 : Cond.selects RX9 yX9_back yX9_back ∈ wAll := inA_wA_26 _ (List.mem_of_getElem? (i := 17) rfl)
theorem m_642 : Cond.methodLink RL 149 yX10_back ∈ wAll := inA_wA_26 _ (List.mem_of_getElem? (i := 18) rfl)
theorem m_643 : Cond.instanceMethod yX10_back ∈ wAll := inA_wA_26 _ (List.mem_of_getElem? (i := 19) rfl)
theorem m_644 : Cond.selects RX10 yX10_back yX10_back ∈ wAll := inA_wA_26 _ (List.mem_of_getElem? (i := 20) rfl)
theorem m_645 : Cond.methodLink RL 150 yX9_row ∈ wAll := inA_wA_26 _ (List.mem_of_getElem? (i := 21) rfl)
theorem m_646 : Cond.instanceMethod yX9_row ∈ wAll := inA_wA_26 _ (List.mem_of_getElem? (i := 22) rfl)
theorem m_647 : Cond.selects RX9 yX9_row yX9_row ∈ wAll := inA_wA_26 _ (List.mem_of_getElem? (i := 23) rfl)
theorem m_648 : Cond.methodLink RL 153 yX10_row ∈ wAll := inA_wA_27 _ (List.mem_of_getElem? (i := 0) rfl)
theorem m_649 : Cond.instanceMethod yX10_row ∈ wAll := inA_wA_27 _ (List.mem_of_getElem? (i := 1) rfl)
theorem m_650 : Cond.selects RX10 yX10_row yX10_row ∈ wAll := inA_wA_27 _ (List.mem_of_getElem? (i := 2) rfl)
theorem m_651 : Cond.constantLong RL 154 (4294967295) ∈ wAll := inA_wA_27 _ (List.mem_of_getElem? (i := 3) rfl)
theorem m_652 : Cond.methodLink RL 156 yX9_write ∈ wAll := inA_wA_27 _ (List.mem_of_getElem? (i := 4) rfl)
theorem m_653 : Cond.instanceMethod yX9_write ∈ wAll := inA_wA_27 _ (List.mem_of_getElem? (i := 5) rfl)
theorem m_654 : Cond.selects RX9 yX9_write yX9_write ∈ wAll := inA_wA_27 _ (List.mem_of_getElem? (i := 6) rfl)
theorem m_655 : Cond.methodLink RL 160 yX10_write ∈ wAll := inA_wA_27 _ (List.mem_of_getElem? (i := 7) rfl)
theorem m_656 : Cond.instanceMethod yX10_write ∈ wAll := inA_wA_27 _ (List.mem_of_getElem? (i := 8) rfl)
theorem m_657 : Cond.selects RX10 yX10_write yX10_write ∈ wAll := inA_wA_27 _ (List.mem_of_getElem? (i := 9) rfl)
theorem m_658 : Cond.methodLink RL 161 yX9_paste ∈ wAll := inA_wA_27 _ (List.mem_of_getElem? (i := 10) rfl)
theorem m_659 : Cond.instanceMethod yX9_paste ∈ wAll := inA_wA_27 _ (List.mem_of_getElem? (i := 11) rfl)
theorem m_660 : Cond.selects RX9 yX9_paste yX9_paste ∈ wAll := inA_wA_27 _ (List.mem_of_getElem? (i := 12) rfl)
theorem m_661 : Cond.methodLink RL 164 yX10_paste ∈ wAll := inA_wA_27 _ (List.mem_of_getElem? (i := 13) rfl)
theorem m_662 : Cond.instanceMethod yX10_paste ∈ wAll := inA_wA_27 _ (List.mem_of_getElem? (i := 14) rfl)
theorem m_663 : Cond.selects RX10 yX10_paste yX10_paste ∈ wAll := inA_wA_27 _ (List.mem_of_getElem? (i := 15) rfl)
theorem tb_1 : ∀ w ∈ tables_1_1, w ∈ lw_tbl := fun w h => List.mem_append_right _ (List.mem_append_left _ h)
theorem tb_2 : ∀ w ∈ tables_1_2, w ∈ lw_tbl := fun w h => List.mem_append_right _ (List.mem_append_right _ (List.mem_append_left _ h))
theorem tb_3 : ∀ w ∈ tables_1_3, w ∈ lw_tbl := fun w h => List.mem_append_right _ (List.mem_append_right _ (List.mem_append_right _ (List.mem_append_left _ h)))
theorem tb_4 : ∀ w ∈ tables_1_4, w ∈ lw_tbl := fun w h => List.mem_append_right _ (List.mem_append_right _ (List.mem_append_right _ (List.mem_append_right _ (List.mem_append_left _ h))))
theorem tb_5 : ∀ w ∈ tables_1_5, w ∈ lw_tbl := fun w h => List.mem_append_right _ (List.mem_append_right _ (List.mem_append_right _ (List.mem_append_right _ (List.mem_append_right _ (List.mem_append_left _ h)))))
theorem tb_6 : ∀ w ∈ tables_1_6, w ∈ lw_tbl := fun w h => List.mem_append_right _ (List.mem_append_right _ (List.mem_append_right _ (List.mem_append_right _ (List.mem_append_right _ (List.mem_append_right _ (List.mem_append_left _ h))))))
theorem tb_7 : ∀ w ∈ tables_1_7, w ∈ lw_tbl := fun w h => List.mem_append_right _ (List.mem_append_right _ (List.mem_append_right _ (List.mem_append_right _ (List.mem_append_right _ (List.mem_append_right _ (List.mem_append_right _ (List.mem_append_left _ h)))))))
theorem tb_8 : ∀ w ∈ tables_1_8, w ∈ lw_tbl := fun w h => List.mem_append_right _ (List.mem_append_right _ (List.mem_append_right _ (List.mem_append_right _ (List.mem_append_right _ (List.mem_append_right _ (List.mem_append_right _ (List.mem_append_right _ (h))))))))
theorem mem_r {big ws : List Cond} (ps : List Nat) (hp : ws = ps.filterMap (fun i => big[i]?)) : ∀ w ∈ ws, w ∈ big := by
  intro w hw
  rw [hp] at hw
  obtain ⟨i, -, hi⟩ := List.mem_filterMap.mp hw
  exact List.mem_of_getElem? hi
set_option maxRecDepth 20000 in
theorem t_0 : Cond.methodLink RX5 3 objectInit ∈ lw_tbl := tb_2 _ (List.mem_of_getElem? (i := 183) (by decide +kernel))
set_option maxRecDepth 20000 in
theorem t_1 : Cond.instanceMethod objectInit ∈ lw_tbl := tb_1 _ (List.mem_of_getElem? (i := 26) (by decide +kernel))
set_option maxRecDepth 20000 in
theorem t_2 : Cond.code objectInit ⟨#[0xb1]⟩ 1 none ∈ lw_tbl := tb_1 _ (List.mem_of_getElem? (i := 27) rfl)
set_option maxRecDepth 20000 in
theorem t_3 : Cond.arrayClass .long ∈ lw_tbl := tb_2 _ (List.mem_of_getElem? (i := 202) (by decide +kernel))
set_option maxRecDepth 20000 in
theorem t_4 : Cond.fieldLink RX5 9 "CardBowl$Slot" "numbers" "[J" ∈ lw_tbl := tb_2 _ (List.mem_of_getElem? (i := 191) (by decide +kernel))
set_option maxRecDepth 20000 in
theorem t_5 : Cond.code yX5_init cX5_init 1 none ∈ lw_tbl := tb_2 _ (List.mem_of_getElem? (i := 182) rfl)
set_option maxRecDepth 20000 in
theorem t_6 : Cond.methodLink RX7 3 objectInit ∈ lw_tbl := tb_1 _ (List.mem_of_getElem? (i := 39) (by decide +kernel))
set_option maxRecDepth 20000 in
theorem t_7 : Cond.fieldLink RX7 11 "CardBowl$Town" "introducers" "I" ∈ lw_tbl := tb_1 _ (List.mem_of_getElem? (i := 48) (by decide +kernel))
set_option maxRecDepth 20000 in
theorem t_8 : Cond.arrayClass .int ∈ lw_tbl := tb_1 _ (List.mem_of_getElem? (i := 110) (by decide +kernel))
set_option maxRecDepth 20000 in
theorem t_9 : Cond.fieldLink RX7 15 "CardBowl$Town" "x" "[I" ∈ lw_tbl := tb_1 _ (List.mem_of_getElem? (i := 53) (by decide +kernel))
set_option maxRecDepth 20000 in
theorem t_10 : Cond.fieldLink RX7 19 "CardBowl$Town" "y" "[I" ∈ lw_tbl := tb_1 _ (List.mem_of_getElem? (i := 56) (by decide +kernel))
set_option maxRecDepth 20000 in
theorem t_11 : Cond.fieldLink RX7 22 "CardBowl$Town" "rank" "[I" ∈ lw_tbl := tb_1 _ (List.mem_of_getElem? (i := 59) (by decide +kernel))
set_option maxRecDepth 20000 in
theorem t_12 : Cond.fieldLink RX7 25 "CardBowl$Town" "weekday" "[I" ∈ lw_tbl := tb_1 _ (List.mem_of_getElem? (i := 63) (by decide +kernel))
set_option maxRecDepth 20000 in
theorem t_13 : Cond.fieldLink RX7 28 "CardBowl$Town" "from" "[I" ∈ lw_tbl := tb_1 _ (List.mem_of_getElem? (i := 68) (by decide +kernel))
set_option maxRecDepth 20000 in
theorem t_14 : Cond.fieldLink RX7 31 "CardBowl$Town" "to" "[I" ∈ lw_tbl := tb_1 _ (List.mem_of_getElem? (i := 72) (by decide +kernel))
set_option maxRecDepth 20000 in
theorem t_15 : Cond.fieldLink RX7 34 "CardBowl$Town" "came" "[I" ∈ lw_tbl := tb_1 _ (List.mem_of_getElem? (i := 76) (by decide +kernel))
set_option maxRecDepth 20000 in
theorem t_16 : Cond.fieldLink RX7 37 "CardBowl$Town" "bride" "[I" ∈ lw_tbl := tb_1 _ (List.mem_of_getElem? (i := 79) (by decide +kernel))
set_option maxRecDepth 20000 in
theorem t_17 : Cond.fieldLink RX7 40 "CardBowl$Town" "told" "[I" ∈ lw_tbl := tb_1 _ (List.mem_of_getElem? (i := 81) (by decide +kernel))
set_option maxRecDepth 20000 in
theorem t_18 : Cond.code yX7_init cX7_init 1 none ∈ lw_tbl := tb_1 _ (List.mem_of_getElem? (i := 38) rfl)
set_option maxRecDepth 20000 in
theorem t_19 : Cond.methodLink RX0 3 objectInit ∈ lw_tbl := tb_1 _ (List.mem_of_getElem? (i := 116) (by decide +kernel))
set_option maxRecDepth 20000 in
theorem t_20 : Cond.fieldLink RX0 9 "CardBowl$Code" "paying" "[I" ∈ lw_tbl := tb_1 _ (List.mem_of_getElem? (i := 122) (by decide +kernel))
set_option maxRecDepth 20000 in
theorem t_21 : Cond.fieldLink RX0 15 "CardBowl$Code" "kind" "[I" ∈ lw_tbl := tb_1 _ (List.mem_of_getElem? (i := 124) (by decide +kernel))
set_option maxRecDepth 20000 in
theorem t_22 : Cond.fieldLink RX0 18 "CardBowl$Code" "within" "[I" ∈ lw_tbl := tb_1 _ (List.mem_of_getElem? (i := 127) (by decide +kernel))
set_option maxRecDepth 20000 in
theorem t_23 : Cond.fieldLink RX0 21 "CardBowl$Code" "start" "[I" ∈ lw_tbl := tb_1 _ (List.mem_of_getElem? (i := 130) (by decide +kernel))
set_option maxRecDepth 20000 in
theorem t_24 : Cond.fieldLink RX0 24 "CardBowl$Code" "stop" "[I" ∈ lw_tbl := tb_1 _ (List.mem_of_getElem? (i := 132) (by decide +kernel))
set_option maxRecDepth 20000 in
theorem t_25 : Cond.fieldLink RX0 27 "CardBowl$Code" "tests" "[I" ∈ lw_tbl := tb_1 _ (List.mem_of_getElem? (i := 134) (by decide +kernel))
set_option maxRecDepth 20000 in
theorem t_26 : Cond.fieldLink RX0 30 "CardBowl$Code" "facts" "[I" ∈ lw_tbl := tb_1 _ (List.mem_of_getElem? (i := 135) (by decide +kernel))
set_option maxRecDepth 20000 in
theorem t_27 : Cond.code yX0_init cX0_init 1 none ∈ lw_tbl := tb_1 _ (List.mem_of_getElem? (i := 115) rfl)
set_option maxRecDepth 20000 in
theorem t_28 : Cond.methodLink RX1 3 objectInit ∈ lw_tbl := tb_1 _ (List.mem_of_getElem? (i := 208) (by decide +kernel))
set_option maxRecDepth 20000 in
theorem t_29 : Cond.fieldLink RX1 9 "CardBowl$Debts" "debtor" "[I" ∈ lw_tbl := tb_1 _ (List.mem_of_getElem? (i := 211) (by decide +kernel))
set_option maxRecDepth 20000 in
theorem t_30 : Cond.fieldLink RX1 15 "CardBowl$Debts" "creditor" "[I" ∈ lw_tbl := tb_1 _ (List.mem_of_getElem? (i := 212) (by decide +kernel))
set_option maxRecDepth 20000 in
theorem t_31 : Cond.fieldLink RX1 18 "CardBowl$Debts" "kind" "[I" ∈ lw_tbl := tb_1 _ (List.mem_of_getElem? (i := 215) (by decide +kernel))
set_option maxRecDepth 20000 in
theorem t_32 : Cond.fieldLink RX1 21 "CardBowl$Debts" "due" "[I" ∈ lw_tbl := tb_1 _ (List.mem_of_getElem? (i := 217) (by decide +kernel))
set_option maxRecDepth 20000 in
theorem t_33 : Cond.fieldLink RX1 24 "CardBowl$Debts" "came" "[I" ∈ lw_tbl := tb_1 _ (List.mem_of_getElem? (i := 220) (by decide +kernel))
set_option maxRecDepth 20000 in
theorem t_34 : Cond.fieldLink RX1 27 "CardBowl$Debts" "open" "[I" ∈ lw_tbl := tb_1 _ (List.mem_of_getElem? (i := 222) (by decide +kernel))
set_option maxRecDepth 20000 in
theorem t_35 : Cond.fieldLink RX1 30 "CardBowl$Debts" "kinds" "[I" ∈ lw_tbl := tb_1 _ (List.mem_of_getElem? (i := 225) (by decide +kernel))
set_option maxRecDepth 20000 in
theorem t_36 : Cond.code yX1_init cX1_init 1 none ∈ lw_tbl := tb_1 _ (List.mem_of_getElem? (i := 207) rfl)
set_option maxRecDepth 20000 in
theorem t_37 : Cond.methodLink RX2 3 objectInit ∈ lw_tbl := tb_2 _ (List.mem_of_getElem? (i := 8) (by decide +kernel))
set_option maxRecDepth 20000 in
theorem t_38 : Cond.fieldLink RX2 9 "CardBowl$Deeds" "who" "[I" ∈ lw_tbl := tb_2 _ (List.mem_of_getElem? (i := 12) (by decide +kernel))
set_option maxRecDepth 20000 in
theorem t_39 : Cond.fieldLink RX2 15 "CardBowl$Deeds" "whom" "[I" ∈ lw_tbl := tb_2 _ (List.mem_of_getElem? (i := 14) (by decide +kernel))
set_option maxRecDepth 20000 in
theorem t_40 : Cond.fieldLink RX2 18 "CardBowl$Deeds" "what" "[I" ∈ lw_tbl := tb_2 _ (List.mem_of_getElem? (i := 16) (by decide +kernel))
set_option maxRecDepth 20000 in
theorem t_41 : Cond.fieldLink RX2 21 "CardBowl$Deeds" "day" "[I" ∈ lw_tbl := tb_2 _ (List.mem_of_getElem? (i := 18) (by decide +kernel))
set_option maxRecDepth 20000 in
theorem t_42 : Cond.code yX2_init cX2_init 1 none ∈ lw_tbl := tb_2 _ (List.mem_of_getElem? (i := 7) rfl)
set_option maxRecDepth 20000 in
theorem t_43 : Cond.methodLink RX4 5 objectInit ∈ lw_tbl := tb_2 _ (List.mem_of_getElem? (i := 76) (by decide +kernel))
set_option maxRecDepth 20000 in
theorem t_44 : Cond.fieldLink RX4 11 "CardBowl$Rounds" "order" "[I" ∈ lw_tbl := tb_2 _ (List.mem_of_getElem? (i := 85) (by decide +kernel))
set_option maxRecDepth 20000 in
theorem t_45 : Cond.fieldLink RX4 15 "CardBowl$Rounds" "owner" "I" ∈ lw_tbl := tb_2 _ (List.mem_of_getElem? (i := 87) (by decide +kernel))
set_option maxRecDepth 20000 in
theorem t_46 : Cond.fieldLink RX4 19 "CardBowl$Rounds" "weekday" "I" ∈ lw_tbl := tb_2 _ (List.mem_of_getElem? (i := 88) (by decide +kernel))
set_option maxRecDepth 20000 in
theorem t_47 : Cond.fieldLink RX4 22 "CardBowl$Rounds" "spot" "[I" ∈ lw_tbl := tb_2 _ (List.mem_of_getElem? (i := 90) (by decide +kernel))
set_option maxRecDepth 20000 in
theorem t_48 : Cond.fieldLink RX4 25 "CardBowl$Rounds" "deadline" "[I" ∈ lw_tbl := tb_2 _ (List.mem_of_getElem? (i := 91) (by decide +kernel))
set_option maxRecDepth 20000 in
theorem t_49 : Cond.fieldLink RX4 28 "CardBowl$Rounds" "opens" "[I" ∈ lw_tbl := tb_2 _ (List.mem_of_getElem? (i := 92) (by decide +kernel))
set_option maxRecDepth 20000 in
theorem t_50 : Cond.fieldLink RX4 31 "CardBowl$Rounds" "closes" "[I" ∈ lw_tbl := tb_2 _ (List.mem_of_getElem? (i := 93) (by decide +kernel))
set_option maxRecDepth 20000 in
theorem t_51 : Cond.fieldLink RX4 34 "CardBowl$Rounds" "stays" "[I" ∈ lw_tbl := tb_2 _ (List.mem_of_getElem? (i := 94) (by decide +kernel))
set_option maxRecDepth 20000 in
theorem t_52 : Cond.fieldLink RX4 37 "CardBowl$Rounds" "apart" "[I" ∈ lw_tbl := tb_2 _ (List.mem_of_getElem? (i := 95) (by decide +kernel))
set_option maxRecDepth 20000 in
theorem t_53 : Cond.fieldLink RX4 40 "CardBowl$Rounds" "minute" "[I" ∈ lw_tbl := tb_2 _ (List.mem_of_getElem? (i := 96) (by decide +kernel))
set_option maxRecDepth 20000 in
theorem t_54 : Cond.fieldLink RX4 43 "CardBowl$Rounds" "soonest" "[I" ∈ lw_tbl := tb_2 _ (List.mem_of_getElem? (i := 97) (by decide +kernel))
set_option maxRecDepth 20000 in
theorem t_55 : Cond.fieldLink RX4 46 "CardBowl$Rounds" "sums" "[I" ∈ lw_tbl := tb_2 _ (List.mem_of_getElem? (i := 98) (by decide +kernel))
set_option maxRecDepth 20000 in
theorem t_56 : Cond.code yX4_init cX4_init 1 none ∈ lw_tbl := tb_2 _ (List.mem_of_getElem? (i := 75) rfl)
set_option maxRecDepth 20000 in
theorem t_57 : Cond.methodLink RX8 5 objectInit ∈ lw_tbl := tb_2 _ (List.mem_of_getElem? (i := 139) (by decide +kernel))
set_option maxRecDepth 20000 in
theorem t_58 : Cond.fieldLink RX8 11 "CardBowl$Ways" "calls" "[I" ∈ lw_tbl := tb_2 _ (List.mem_of_getElem? (i := 144) (by decide +kernel))
set_option maxRecDepth 20000 in
theorem t_59 : Cond.fieldLink RX8 15 "CardBowl$Ways" "caller" "I" ∈ lw_tbl := tb_2 _ (List.mem_of_getElem? (i := 146) (by decide +kernel))
set_option maxRecDepth 20000 in
theorem t_60 : Cond.fieldLink RX8 19 "CardBowl$Ways" "goal" "I" ∈ lw_tbl := tb_2 _ (List.mem_of_getElem? (i := 147) (by decide +kernel))
set_option maxRecDepth 20000 in
theorem t_61 : Cond.fieldLink RX8 22 "CardBowl$Ways" "house" "[I" ∈ lw_tbl := tb_2 _ (List.mem_of_getElem? (i := 149) (by decide +kernel))
set_option maxRecDepth 20000 in
theorem t_62 : Cond.fieldLink RX8 25 "CardBowl$Ways" "friends" "[I" ∈ lw_tbl := tb_2 _ (List.mem_of_getElem? (i := 150) (by decide +kernel))
set_option maxRecDepth 20000 in
theorem t_63 : Cond.fieldLink RX8 28 "CardBowl$Ways" "links" "[I" ∈ lw_tbl := tb_2 _ (List.mem_of_getElem? (i := 151) (by decide +kernel))
set_option maxRecDepth 20000 in
theorem t_64 : Cond.fieldLink RX8 31 "CardBowl$Ways" "queue" "[I" ∈ lw_tbl := tb_2 _ (List.mem_of_getElem? (i := 152) (by decide +kernel))
set_option maxRecDepth 20000 in
theorem t_65 : Cond.fieldLink RX8 34 "CardBowl$Ways" "latest" "[I" ∈ lw_tbl := tb_2 _ (List.mem_of_getElem? (i := 153) (by decide +kernel))
set_option maxRecDepth 20000 in
theorem t_66 : Cond.code yX8_init cX8_init 1 none ∈ lw_tbl := tb_2 _ (List.mem_of_getElem? (i := 138) rfl)
set_option maxRecDepth 20000 in
theorem t_67 : Cond.methodLink RX3 3 objectInit ∈ lw_tbl := tb_1 _ (List.mem_of_getElem? (i := 33) (by decide +kernel))
set_option maxRecDepth 20000 in
theorem t_68 : Cond.classLink RX3 9 RX7 ∈ lw_tbl := tb_1 _ (List.mem_of_getElem? (i := 34) (by decide +kernel))
set_option maxRecDepth 20000 in
theorem t_69 : Cond.instantiable RX7 12 ∈ lw_tbl := tb_1 _ (List.mem_of_getElem? (i := 35) (by decide +kernel))
set_option maxRecDepth 20000 in
theorem t_70 : Cond.initialized RX7 ∈ lw_tbl := tb_1 _ (List.mem_of_getElem? (i := 3) (by decide +kernel))
set_option maxRecDepth 20000 in
theorem t_71 : Cond.instanceMethod yX7_init ∈ lw_tbl := tb_1 _ (List.mem_of_getElem? (i := 37) (by decide +kernel))
set_option maxRecDepth 20000 in
theorem t_72 : Cond.fieldLink RX3 12 "CardBowl$Reader" "town" "LCardBowl$Town;" ∈ lw_tbl := tb_1 _ (List.mem_of_getElem? (i := 158) (by decide +kernel))
set_option maxRecDepth 20000 in
theorem t_73 : Cond.classLink RX3 18 RX0 ∈ lw_tbl := tb_1 _ (List.mem_of_getElem? (i := 111) (by decide +kernel))
set_option maxRecDepth 20000 in
theorem t_74 : Cond.instantiable RX0 10 ∈ lw_tbl := tb_1 _ (List.mem_of_getElem? (i := 112) (by decide +kernel))
set_option maxRecDepth 20000 in
theorem t_75 : Cond.initialized RX0 ∈ lw_tbl := tb_1 _ (List.mem_of_getElem? (i := 4) (by decide +kernel))
set_option maxRecDepth 20000 in
theorem t_76 : Cond.instanceMethod yX0_init ∈ lw_tbl := tb_1 _ (List.mem_of_getElem? (i := 114) (by decide +kernel))
set_option maxRecDepth 20000 in
theorem t_77 : Cond.fieldLink RX3 21 "CardBowl$Reader" "code" "LCardBowl$Code;" ∈ lw_tbl := tb_1 _ (List.mem_of_getElem? (i := 160) (by decide +kernel))
set_option maxRecDepth 20000 in
theorem t_78 : Cond.fieldLink RX3 25 "CardBowl$Reader" "place" "I" ∈ lw_tbl := tb_1 _ (List.mem_of_getElem? (i := 164) (by decide +kernel))
set_option maxRecDepth 20000 in
theorem t_79 : Cond.code yX3_init cX3_init 1 none ∈ lw_tbl := tb_1 _ (List.mem_of_getElem? (i := 32) rfl)
set_option maxRecDepth 20000 in
theorem t_80 : Cond.methodLink RX6 3 objectInit ∈ lw_tbl := tb_1 _ (List.mem_of_getElem? (i := 198) (by decide +kernel))
set_option maxRecDepth 20000 in
theorem t_81 : Cond.classLink RX6 9 RX7 ∈ lw_tbl := tb_1 _ (List.mem_of_getElem? (i := 199) (by decide +kernel))
set_option maxRecDepth 20000 in
theorem t_82 : Cond.fieldLink RX6 12 "CardBowl$State" "town" "LCardBowl$Town;" ∈ lw_tbl := tb_2 _ (List.mem_of_getElem? (i := 31) (by decide +kernel))
set_option maxRecDepth 20000 in
theorem t_83 : Cond.classLink RX6 18 RX0 ∈ lw_tbl := tb_1 _ (List.mem_of_getElem? (i := 201) (by decide +kernel))
set_option maxRecDepth 20000 in
theorem t_84 : Cond.fieldLink RX6 21 "CardBowl$State" "code" "LCardBowl$Code;" ∈ lw_tbl := tb_2 _ (List.mem_of_getElem? (i := 35) (by decide +kernel))
set_option maxRecDepth 20000 in
theorem t_85 : Cond.classLink RX6 25 RX1 ∈ lw_tbl := tb_1 _ (List.mem_of_getElem? (i := 203) (by decide +kernel))
set_option maxRecDepth 20000 in
theorem t_86 : Cond.instantiable RX1 8 ∈ lw_tbl := tb_1 _ (List.mem_of_getElem? (i := 204) (by decide +kernel))
set_option maxRecDepth 20000 in
theorem t_87 : Cond.initialized RX1 ∈ lw_tbl := tb_1 _ (List.mem_of_getElem? (i := 6) (by decide +kernel))
set_option maxRecDepth 20000 in
theorem t_88 : Cond.instanceMethod yX1_init ∈ lw_tbl := tb_1 _ (List.mem_of_getElem? (i := 206) (by decide +kernel))
set_option maxRecDepth 20000 in
theorem t_89 : Cond.fieldLink RX6 28 "CardBowl$State" "debts" "LCardBowl$Debts;" ∈ lw_tbl := tb_2 _ (List.mem_of_getElem? (i := 37) (by decide +kernel))
set_option maxRecDepth 20000 in
theorem t_90 : Cond.classLink RX6 32 RX2 ∈ lw_tbl := tb_2 _ (List.mem_of_getElem? (i := 3) (by decide +kernel))
set_option maxRecDepth 20000 in
theorem t_91 : Cond.instantiable RX2 5 ∈ lw_tbl := tb_2 _ (List.mem_of_getElem? (i := 4) (by decide +kernel))
set_option maxRecDepth 20000 in
theorem t_92 : Cond.initialized RX2 ∈ lw_tbl := tb_1 _ (List.mem_of_getElem? (i := 7) (by decide +kernel))
set_option maxRecDepth 20000 in
theorem t_93 : Cond.instanceMethod yX2_init ∈ lw_tbl := tb_2 _ (List.mem_of_getElem? (i := 6) (by decide +kernel))
set_option maxRecDepth 20000 in
theorem t_94 : Cond.fieldLink RX6 35 "CardBowl$State" "deeds" "LCardBowl$Deeds;" ∈ lw_tbl := tb_2 _ (List.mem_of_getElem? (i := 40) (by decide +kernel))
set_option maxRecDepth 20000 in
theorem t_95 : Cond.fieldLink RX6 39 "CardBowl$State" "knows" "[I" ∈ lw_tbl := tb_2 _ (List.mem_of_getElem? (i := 42) (by decide +kernel))
set_option maxRecDepth 20000 in
theorem t_96 : Cond.fieldLink RX6 43 "CardBowl$State" "follows" "[I" ∈ lw_tbl := tb_2 _ (List.mem_of_getElem? (i := 50) (by decide +kernel))
set_option maxRecDepth 20000 in
theorem t_97 : Cond.code yX6_init cX6_init 1 none ∈ lw_tbl := tb_1 _ (List.mem_of_getElem? (i := 197) rfl)
set_option maxRecDepth 20000 in
theorem t_98 : Cond.methodLink RX9 1 objectInit ∈ lw_tbl := tb_1 _ (List.mem_of_getElem? (i := 25) (by decide +kernel))
set_option maxRecDepth 20000 in
theorem t_99 : Cond.arrayClass .byte ∈ lw_tbl := tb_1 _ (List.mem_of_getElem? (i := 109) (by decide +kernel))
set_option maxRecDepth 20000 in
theorem t_100 : Cond.fieldLink RX9 9 "CardBowl" "tape" "[B" ∈ lw_tbl := tb_2 _ (List.mem_of_getElem? (i := 203) (by decide +kernel))
set_option maxRecDepth 20000 in
theorem t_101 : Cond.classLink RX9 13 RX3 ∈ lw_tbl := tb_1 _ (List.mem_of_getElem? (i := 28) (by decide +kernel))
set_option maxRecDepth 20000 in
theorem t_102 : Cond.instantiable RX3 10 ∈ lw_tbl := tb_1 _ (List.mem_of_getElem? (i := 29) (by decide +kernel))
set_option maxRecDepth 20000 in
theorem t_103 : Cond.initialized RX3 ∈ lw_tbl := tb_1 _ (List.mem_of_getElem? (i := 2) (by decide +kernel))
set_option maxRecDepth 20000 in
theorem t_104 : Cond.instanceMethod yX3_init ∈ lw_tbl := tb_1 _ (List.mem_of_getElem? (i := 31) (by decide +kernel))
set_option maxRecDepth 20000 in
theorem t_105 : Cond.fieldLink RX9 16 "CardBowl" "reader" "LCardBowl$Reader;" ∈ lw_tbl := tb_2 _ (List.mem_of_getElem? (i := 205) (by decide +kernel))
set_option maxRecDepth 20000 in
theorem t_106 : Cond.classLink RX9 20 RX6 ∈ lw_tbl := tb_1 _ (List.mem_of_getElem? (i := 193) (by decide +kernel))
set_option maxRecDepth 20000 in
theorem t_107 : Cond.instantiable RX6 8 ∈ lw_tbl := tb_1 _ (List.mem_of_getElem? (i := 194) (by decide +kernel))
set_option maxRecDepth 20000 in
theorem t_108 : Cond.initialized RX6 ∈ lw_tbl := tb_1 _ (List.mem_of_getElem? (i := 5) (by decide +kernel))
set_option maxRecDepth 20000 in
theorem t_109 : Cond.instanceMethod yX6_init ∈ lw_tbl := tb_1 _ (List.mem_of_getElem? (i := 196) (by decide +kernel))
set_option maxRecDepth 20000 in
theorem t_110 : Cond.fieldLink RX9 23 "CardBowl" "state" "LCardBowl$State;" ∈ lw_tbl := tb_2 _ (List.mem_of_getElem? (i := 206) (by decide +kernel))
set_option maxRecDepth 20000 in
theorem t_111 : Cond.fieldLink RX9 27 "CardBowl" "images" "[LCardBowl$State;" ∈ lw_tbl := tb_2 _ (List.mem_of_getElem? (i := 207) (by decide +kernel))
set_option maxRecDepth 20000 in
theorem t_112 : Cond.classLink RX9 31 RX5 ∈ lw_tbl := tb_2 _ (List.mem_of_getElem? (i := 69) (by decide +kernel))
set_option maxRecDepth 20000 in
theorem t_113 : Cond.fieldLink RX9 33 "CardBowl" "slots" "[LCardBowl$Slot;" ∈ lw_tbl := tb_2 _ (List.mem_of_getElem? (i := 208) (by decide +kernel))
set_option maxRecDepth 20000 in
theorem t_114 : Cond.classLink RX9 37 RX4 ∈ lw_tbl := tb_2 _ (List.mem_of_getElem? (i := 71) (by decide +kernel))
set_option maxRecDepth 20000 in
theorem t_115 : Cond.instantiable RX4 17 ∈ lw_tbl := tb_2 _ (List.mem_of_getElem? (i := 72) (by decide +kernel))
set_option maxRecDepth 20000 in
theorem t_116 : Cond.initialized RX4 ∈ lw_tbl := tb_1 _ (List.mem_of_getElem? (i := 8) (by decide +kernel))
set_option maxRecDepth 20000 in
theorem t_117 : Cond.instanceMethod yX4_init ∈ lw_tbl := tb_2 _ (List.mem_of_getElem? (i := 74) (by decide +kernel))
set_option maxRecDepth 20000 in
theorem t_118 : Cond.fieldLink RX9 40 "CardBowl" "rounds" "LCardBowl$Rounds;" ∈ lw_tbl := tb_2 _ (List.mem_of_getElem? (i := 209) (by decide +kernel))
set_option maxRecDepth 20000 in
theorem t_119 : Cond.classLink RX9 44 RX8 ∈ lw_tbl := tb_2 _ (List.mem_of_getElem? (i := 134) (by decide +kernel))
set_option maxRecDepth 20000 in
theorem t_120 : Cond.instantiable RX8 11 ∈ lw_tbl := tb_2 _ (List.mem_of_getElem? (i := 135) (by decide +kernel))
set_option maxRecDepth 20000 in
theorem t_121 : Cond.initialized RX8 ∈ lw_tbl := tb_1 _ (List.mem_of_getElem? (i := 9) (by decide +kernel))
set_option maxRecDepth 20000 in
theorem t_122 : Cond.instanceMethod yX8_init ∈ lw_tbl := tb_2 _ (List.mem_of_getElem? (i := 137) (by decide +kernel))
set_option maxRecDepth 20000 in
theorem t_123 : Cond.fieldLink RX9 47 "CardBowl" "ways" "LCardBowl$Ways;" ∈ lw_tbl := tb_2 _ (List.mem_of_getElem? (i := 210) (by decide +kernel))
set_option maxRecDepth 20000 in
theorem t_124 : Cond.classLink RX9 51 RX1 ∈ lw_tbl := tb_2 _ (List.mem_of_getElem? (i := 177) (by decide +kernel))
set_option maxRecDepth 20000 in
theorem t_125 : Cond.fieldLink RX9 54 "CardBowl" "otherDebts" "LCardBowl$Debts;" ∈ lw_tbl := tb_2 _ (List.mem_of_getElem? (i := 211) (by decide +kernel))
set_option maxRecDepth 20000 in
theorem t_126 : Cond.fieldLink RX9 58 "CardBowl" "otherKnows" "[I" ∈ lw_tbl := tb_2 _ (List.mem_of_getElem? (i := 212) (by decide +kernel))
set_option maxRecDepth 20000 in
theorem t_127 : Cond.instantiable RX5 4 ∈ lw_tbl := tb_2 _ (List.mem_of_getElem? (i := 179) (by decide +kernel))
set_option maxRecDepth 20000 in
theorem t_128 : Cond.initialized RX5 ∈ lw_tbl := tb_1 _ (List.mem_of_getElem? (i := 10) (by decide +kernel))
set_option maxRecDepth 20000 in
theorem t_129 : Cond.instanceMethod yX5_init ∈ lw_tbl := tb_2 _ (List.mem_of_getElem? (i := 181) (by decide +kernel))
set_option maxRecDepth 20000 in
theorem t_130 : Cond.code yX9_init cX9_init 2 none ∈ lw_tbl := tb_1 _ (List.mem_of_getElem? (i := 24) rfl)
set_option maxRecDepth 20000 in
theorem t_131 : Cond.methodLink RX10 7 objectInit ∈ lw_tbl := tb_5 _ (List.mem_of_getElem? (i := 172) (by decide +kernel))
set_option maxRecDepth 20000 in
theorem t_132 : Cond.fieldLink RX10 13 "CardBowlModel" "world" "[I" ∈ lw_tbl := tb_5 _ (List.mem_of_getElem? (i := 174) (by decide +kernel))
set_option maxRecDepth 20000 in
theorem t_133 : Cond.fieldLink RX10 17 "CardBowlModel" "images" "[I" ∈ lw_tbl := tb_5 _ (List.mem_of_getElem? (i := 175) (by decide +kernel))
set_option maxRecDepth 20000 in
theorem t_134 : Cond.arrayClass .boolean ∈ lw_tbl := tb_6 _ (List.mem_of_getElem? (i := 57) (by decide +kernel))
set_option maxRecDepth 20000 in
theorem t_135 : Cond.fieldLink RX10 20 "CardBowlModel" "hasImage" "[Z" ∈ lw_tbl := tb_5 _ (List.mem_of_getElem? (i := 176) (by decide +kernel))
set_option maxRecDepth 20000 in
theorem t_136 : Cond.fieldLink RX10 24 "CardBowlModel" "tape" "[B" ∈ lw_tbl := tb_5 _ (List.mem_of_getElem? (i := 177) (by decide +kernel))
set_option maxRecDepth 20000 in
theorem t_137 : Cond.fieldLink RX10 28 "CardBowlModel" "five" "[I" ∈ lw_tbl := tb_5 _ (List.mem_of_getElem? (i := 179) (by decide +kernel))
set_option maxRecDepth 20000 in
theorem t_138 : Cond.fieldLink RX10 31 "CardBowlModel" "faultPlace" "I" ∈ lw_tbl := tb_5 _ (List.mem_of_getElem? (i := 186) (by decide +kernel))
set_option maxRecDepth 20000 in
theorem t_139 : Cond.fieldLink RX10 34 "CardBowlModel" "fresh" "[I" ∈ lw_tbl := tb_5 _ (List.mem_of_getElem? (i := 187) (by decide +kernel))
set_option maxRecDepth 20000 in
theorem t_140 : Cond.fieldLink RX10 37 "CardBowlModel" "parts" "[I" ∈ lw_tbl := tb_5 _ (List.mem_of_getElem? (i := 188) (by decide +kernel))
set_option maxRecDepth 20000 in
theorem t_141 : Cond.fieldLink RX10 40 "CardBowlModel" "houses" "[I" ∈ lw_tbl := tb_5 _ (List.mem_of_getElem? (i := 189) (by decide +kernel))
set_option maxRecDepth 20000 in
theorem t_142 : Cond.fieldLink RX10 43 "CardBowlModel" "worthOf" "[I" ∈ lw_tbl := tb_5 _ (List.mem_of_getElem? (i := 191) (by decide +kernel))
set_option maxRecDepth 20000 in
theorem t_143 : Cond.fieldLink RX10 46 "CardBowlModel" "byCall" "[Z" ∈ lw_tbl := tb_5 _ (List.mem_of_getElem? (i := 192) (by decide +kernel))
set_option maxRecDepth 20000 in
theorem t_144 : Cond.fieldLink RX10 49 "CardBowlModel" "over" "[I" ∈ lw_tbl := tb_5 _ (List.mem_of_getElem? (i := 193) (by decide +kernel))
set_option maxRecDepth 20000 in
theorem t_145 : Cond.fieldLink RX10 52 "CardBowlModel" "row" "[I" ∈ lw_tbl := tb_5 _ (List.mem_of_getElem? (i := 197) (by decide +kernel))
set_option maxRecDepth 20000 in
theorem t_146 : Cond.fieldLink RX10 55 "CardBowlModel" "tenDebts" "[I" ∈ lw_tbl := tb_5 _ (List.mem_of_getElem? (i := 198) (by decide +kernel))
set_option maxRecDepth 20000 in
theorem t_147 : Cond.fieldLink RX10 58 "CardBowlModel" "fewestBy" "[I" ∈ lw_tbl := tb_5 _ (List.mem_of_getElem? (i := 200) (by decide +kernel))
set_option maxRecDepth 20000 in
theorem t_148 : Cond.fieldLink RX10 61 "CardBowlModel" "covered" "[I" ∈ lw_tbl := tb_5 _ (List.mem_of_getElem? (i := 201) (by decide +kernel))
set_option maxRecDepth 20000 in
theorem t_149 : Cond.constant RX10 64 (65536) ∈ lw_tbl := tb_5 _ (List.mem_of_getElem? (i := 173) (by decide +kernel))
set_option maxRecDepth 20000 in
theorem t_150 : Cond.fieldLink RX10 65 "CardBowlModel" "queue" "[I" ∈ lw_tbl := tb_5 _ (List.mem_of_getElem? (i := 202) (by decide +kernel))
set_option maxRecDepth 20000 in
theorem t_151 : Cond.fieldLink RX10 68 "CardBowlModel" "cameBy" "[I" ∈ lw_tbl := tb_5 _ (List.mem_of_getElem? (i := 203) (by decide +kernel))
set_option maxRecDepth 20000 in
theorem t_152 : Cond.fieldLink RX10 71 "CardBowlModel" "parent" "[I" ∈ lw_tbl := tb_5 _ (List.mem_of_getElem? (i := 204) (by decide +kernel))
set_option maxRecDepth 20000 in
theorem t_153 : Cond.fieldLink RX10 74 "CardBowlModel" "met" "[Z" ∈ lw_tbl := tb_5 _ (List.mem_of_getElem? (i := 205) (by decide +kernel))
set_option maxRecDepth 20000 in
theorem t_154 : Cond.fieldLink RX10 77 "CardBowlModel" "calls" "[I" ∈ lw_tbl := tb_5 _ (List.mem_of_getElem? (i := 206) (by decide +kernel))
set_option maxRecDepth 20000 in
theorem t_155 : Cond.fieldLink RX10 80 "CardBowlModel" "calledOn" "[I" ∈ lw_tbl := tb_5 _ (List.mem_of_getElem? (i := 208) (by decide +kernel))
set_option maxRecDepth 20000 in
theorem t_156 : Cond.fieldLink RX10 83 "CardBowlModel" "saved" "[I" ∈ lw_tbl := tb_5 _ (List.mem_of_getElem? (i := 209) (by decide +kernel))
set_option maxRecDepth 20000 in
theorem t_157 : Cond.fieldLink RX10 86 "CardBowlModel" "many" "[I" ∈ lw_tbl := tb_5 _ (List.mem_of_getElem? (i := 210) (by decide +kernel))
set_option maxRecDepth 20000 in
theorem t_158 : Cond.fieldLink RX10 89 "CardBowlModel" "width" "[I" ∈ lw_tbl := tb_5 _ (List.mem_of_getElem? (i := 211) (by decide +kernel))
set_option maxRecDepth 20000 in
theorem t_159 : Cond.fieldLink RX10 92 "CardBowlModel" "numbers" "[J" ∈ lw_tbl := tb_5 _ (List.mem_of_getElem? (i := 212) (by decide +kernel))
set_option maxRecDepth 20000 in
theorem t_160 : Cond.fieldLink RX10 96 "CardBowlModel" "moving" "[J" ∈ lw_tbl := tb_5 _ (List.mem_of_getElem? (i := 213) (by decide +kernel))
set_option maxRecDepth 20000 in
theorem t_161 : Cond.code yX10_init cX10_init 1 none ∈ lw_tbl := tb_5 _ (List.mem_of_getElem? (i := 171) rfl)
set_option maxRecDepth 20000 in
theorem t_162 : Cond.code yX9_isSlot cX9_isSlot 1 (some .boolean) ∈ lw_tbl := tb_4 _ (List.mem_of_getElem? (i := 70) rfl)
set_option maxRecDepth 20000 in
theorem t_163 : Cond.code yX9_isImage cX9_isImage 1 (some .boolean) ∈ lw_tbl := tb_5 _ (List.mem_of_getElem? (i := 100) rfl)
set_option maxRecDepth 20000 in
theorem t_164 : Cond.code yX10_in cX10_in 6 (some .boolean) ∈ lw_tbl := tb_6 _ (List.mem_of_getElem? (i := 65) rfl)
set_option maxRecDepth 20000 in
theorem t_165 : Cond.constantLong RX10 313 (3) ∈ lw_tbl := tb_6 _ (List.mem_of_getElem? (i := 232) (by decide +kernel))
set_option maxRecDepth 20000 in
theorem t_166 : Cond.initialized RX10 ∈ lw_tbl := tb_1 _ (List.mem_of_getElem? (i := 11) (by decide +kernel))
set_option maxRecDepth 20000 in
theorem t_167 : Cond.methodLink RX10 101 yX10_in ∈ lw_tbl := tb_6 _ (List.mem_of_getElem? (i := 63) (by decide +kernel))
set_option maxRecDepth 20000 in
theorem t_168 : Cond.static yX10_in ∈ lw_tbl := tb_6 _ (List.mem_of_getElem? (i := 64) (by decide +kernel))
set_option maxRecDepth 20000 in
theorem t_169 : Cond.code yX10_isSlot cX10_isSlot 1 (some .boolean) ∈ lw_tbl := tb_7 _ (List.mem_of_getElem? (i := 87) rfl)
set_option maxRecDepth 20000 in
theorem t_170 : Cond.fieldLink RX7 43 "CardBowl$Town" "houses" "I" ∈ lw_tbl := tb_1 _ (List.mem_of_getElem? (i := 40) (by decide +kernel))
set_option maxRecDepth 20000 in
theorem t_171 : Cond.code yX7_has cX7_has 2 (some .boolean) ∈ lw_tbl := tb_3 _ (List.mem_of_getElem? (i := 199) rfl)
set_option maxRecDepth 20000 in
theorem t_172 : Cond.methodLink RX7 61 yX7_has ∈ lw_tbl := tb_3 _ (List.mem_of_getElem? (i := 196) (by decide +kernel))
set_option maxRecDepth 20000 in
theorem t_173 : Cond.instanceMethod yX7_has ∈ lw_tbl := tb_3 _ (List.mem_of_getElem? (i := 197) (by decide +kernel))
set_option maxRecDepth 20000 in
theorem t_174 : Cond.selects RX7 yX7_has yX7_has ∈ lw_tbl := tb_3 _ (List.mem_of_getElem? (i := 198) (by decide +kernel))
set_option maxRecDepth 20000 in
theorem t_175 : Cond.code yX7_hasPair cX7_hasPair 3 (some .boolean) ∈ lw_tbl := tb_3 _ (List.mem_of_getElem? (i := 195) rfl)
set_option maxRecDepth 20000 in
theorem t_176 : Cond.fieldLink RX9 93 "CardBowl$State" "town" "LCardBowl$Town;" ∈ lw_tbl := tb_2 _ (List.mem_of_getElem? (i := 34) (by decide +kernel))
set_option maxRecDepth 20000 in
theorem t_177 : Cond.methodLink RX9 126 yX7_hasPair ∈ lw_tbl := tb_3 _ (List.mem_of_getElem? (i := 192) (by decide +kernel))
set_option maxRecDepth 20000 in
theorem t_178 : Cond.instanceMethod yX7_hasPair ∈ lw_tbl := tb_3 _ (List.mem_of_getElem? (i := 193) (by decide +kernel))
set_option maxRecDepth 20000 in
theorem t_179 : Cond.selects RX7 yX7_hasPair yX7_hasPair ∈ lw_tbl := tb_3 _ (List.mem_of_getElem? (i := 194) (by decide +kernel))
set_option maxRecDepth 20000 in
theorem t_180 : Cond.code yX9_isDeed cX9_isDeed 4 (some .boolean) ∈ lw_tbl := tb_3 _ (List.mem_of_getElem? (i := 191) rfl)
set_option maxRecDepth 20000 in
theorem t_181 : Cond.methodLink RX9 158 yX7_has ∈ lw_tbl := tb_4 _ (List.mem_of_getElem? (i := 87) (by decide +kernel))
set_option maxRecDepth 20000 in
theorem t_182 : Cond.code yX9_isOuting cX9_isOuting 3 (some .boolean) ∈ lw_tbl := tb_4 _ (List.mem_of_getElem? (i := 123) rfl)
set_option maxRecDepth 20000 in
theorem t_183 : Cond.initialized RX9 ∈ lw_tbl := tb_1 _ (List.mem_of_getElem? (i := 1) (by decide +kernel))
set_option maxRecDepth 20000 in
theorem t_184 : Cond.methodLink RX9 105 yX9_isDeed ∈ lw_tbl := tb_3 _ (List.mem_of_getElem? (i := 188) (by decide +kernel))
set_option maxRecDepth 20000 in
theorem t_185 : Cond.instanceMethod yX9_isDeed ∈ lw_tbl := tb_3 _ (List.mem_of_getElem? (i := 190) (by decide +kernel))
theorem t_186 : Cond.selects RX9 yX9_isDeed yX9_isDeed ∈ lw_tbl := List.mem_append_left _ (List.mem_of_getElem? (i := 16) (by decide +kernel))
set_option maxRecDepth 20000 in
theorem t_187 : Cond.code yX9_bars cX9_bars 4 (some .int) ∈ lw_tbl := tb_3 _ (List.mem_of_getElem? (i := 187) rfl)
set_option maxRecDepth 20000 in
theorem t_188 : Cond.code yX9_does cX9_does 4 (some .int) ∈ lw_tbl := tb_3 _ (List.mem_of_getElem? (i := 233) rfl)
set_option maxRecDepth 20000 in
theorem t_189 : Cond.code yX9_meet cX9_meet 3 (some .int) ∈ lw_tbl := tb_4 _ (List.mem_of_getElem? (i := 59) rfl)
set_option maxRecDepth 20000 in
theorem t_190 : Cond.code yX9_known cX9_known 3 (some .int) ∈ lw_tbl := tb_4 _ (List.mem_of_getElem? (i := 81) rfl)
set_option maxRecDepth 20000 in
theorem t_191 : Cond.code yX9_debts cX9_debts 2 (some .int) ∈ lw_tbl := tb_4 _ (List.mem_of_getElem? (i := 86) rfl)
set_option maxRecDepth 20000 in
theorem t_192 : Cond.code yX9_slights cX9_slights 2 (some .int) ∈ lw_tbl := tb_4 _ (List.mem_of_getElem? (i := 99) rfl)
set_option maxRecDepth 20000 in
theorem t_193 : Cond.code yX9_owes cX9_owes 4 (some .int) ∈ lw_tbl := tb_4 _ (List.mem_of_getElem? (i := 111) rfl)
set_option maxRecDepth 20000 in
theorem t_194 : Cond.methodLink RX9 191 yX9_isOuting ∈ lw_tbl := tb_4 _ (List.mem_of_getElem? (i := 120) (by decide +kernel))
set_option maxRecDepth 20000 in
theorem t_195 : Cond.instanceMethod yX9_isOuting ∈ lw_tbl := tb_4 _ (List.mem_of_getElem? (i := 122) (by decide +kernel))
theorem t_196 : Cond.selects RX9 yX9_isOuting yX9_isOuting ∈ lw_tbl := List.mem_append_left _ (List.mem_of_getElem? (i := 23) (by decide +kernel))
set_option maxRecDepth 20000 in
theorem t_197 : Cond.code yX9_worth cX9_worth 3 (some .int) ∈ lw_tbl := tb_4 _ (List.mem_of_getElem? (i := 119) rfl)
set_option maxRecDepth 20000 in
theorem t_198 : Cond.code yX9_round cX9_round 4 (some .int) ∈ lw_tbl := tb_4 _ (List.mem_of_getElem? (i := 196) rfl)
set_option maxRecDepth 20000 in
theorem t_199 : Cond.code yX9_over cX9_over 3 (some .int) ∈ lw_tbl := tb_4 _ (List.mem_of_getElem? (i := 200) rfl)
set_option maxRecDepth 20000 in
theorem t_200 : Cond.methodLink RX9 134 yX9_isSlot ∈ lw_tbl := tb_4 _ (List.mem_of_getElem? (i := 68) (by decide +kernel))
set_option maxRecDepth 20000 in
theorem t_201 : Cond.static yX9_isSlot ∈ lw_tbl := tb_4 _ (List.mem_of_getElem? (i := 69) (by decide +kernel))
set_option maxRecDepth 20000 in
theorem t_202 : Cond.code yX9_may cX9_may 5 (some .int) ∈ lw_tbl := tb_4 _ (List.mem_of_getElem? (i := 204) rfl)
set_option maxRecDepth 20000 in
theorem t_203 : Cond.code yX9_fewest cX9_fewest 2 (some .int) ∈ lw_tbl := tb_4 _ (List.mem_of_getElem? (i := 214) rfl)
set_option maxRecDepth 20000 in
theorem t_204 : Cond.code yX9_lost cX9_lost 2 (some .int) ∈ lw_tbl := tb_4 _ (List.mem_of_getElem? (i := 235) rfl)
set_option maxRecDepth 20000 in
theorem t_205 : Cond.code yX9_soon cX9_soon 3 (some .int) ∈ lw_tbl := tb_5 _ (List.mem_of_getElem? (i := 7) rfl)
set_option maxRecDepth 20000 in
theorem t_206 : Cond.code yX9_path cX9_path 4 (some .int) ∈ lw_tbl := tb_5 _ (List.mem_of_getElem? (i := 37) rfl)
set_option maxRecDepth 20000 in
theorem t_207 : Cond.code yX9_reach cX9_reach 2 (some .int) ∈ lw_tbl := tb_5 _ (List.mem_of_getElem? (i := 41) rfl)
set_option maxRecDepth 20000 in
theorem t_208 : Cond.code yX9_drop cX9_drop 5 (some .int) ∈ lw_tbl := tb_5 _ (List.mem_of_getElem? (i := 49) rfl)
set_option maxRecDepth 20000 in
theorem t_209 : Cond.code yX9_tie cX9_tie 3 (some .int) ∈ lw_tbl := tb_5 _ (List.mem_of_getElem? (i := 62) rfl)
set_option maxRecDepth 20000 in
theorem t_210 : Cond.code yX9_ring cX9_ring 2 (some .int) ∈ lw_tbl := tb_5 _ (List.mem_of_getElem? (i := 80) rfl)
set_option maxRecDepth 20000 in
theorem t_211 : Cond.code yX9_debt cX9_debt 5 (some .int) ∈ lw_tbl := tb_4 _ (List.mem_of_getElem? (i := 91) rfl)
set_option maxRecDepth 20000 in
theorem t_212 : Cond.fieldLink RX9 94 "CardBowl$Town" "houses" "I" ∈ lw_tbl := tb_1 _ (List.mem_of_getElem? (i := 43) (by decide +kernel))
set_option maxRecDepth 20000 in
theorem t_213 : Cond.code yX9_first cX9_first 6 (some .int) ∈ lw_tbl := tb_4 _ (List.mem_of_getElem? (i := 107) rfl)
set_option maxRecDepth 20000 in
theorem t_214 : Cond.constant RX9 248 (-2000000000) ∈ lw_tbl := tb_5 _ (List.mem_of_getElem? (i := 85) (by decide +kernel))
set_option maxRecDepth 20000 in
theorem t_215 : Cond.code yX9_house cX9_house 3 (some .int) ∈ lw_tbl := tb_5 _ (List.mem_of_getElem? (i := 84) rfl)
set_option maxRecDepth 20000 in
theorem t_216 : Cond.fieldLink RX9 63 "CardBowl" "tapeSize" "I" ∈ lw_tbl := tb_2 _ (List.mem_of_getElem? (i := 204) (by decide +kernel))
set_option maxRecDepth 20000 in
theorem t_217 : Cond.code yX9_end cX9_end 2 (some .int) ∈ lw_tbl := tb_3 _ (List.mem_of_getElem? (i := 5) rfl)
set_option maxRecDepth 20000 in
theorem t_218 : Cond.fieldLink RX9 99 "CardBowl$Reader" "place" "I" ∈ lw_tbl := tb_1 _ (List.mem_of_getElem? (i := 165) (by decide +kernel))
set_option maxRecDepth 20000 in
theorem t_219 : Cond.fieldLink RX9 75 "CardBowl$Reader" "fault" "I" ∈ lw_tbl := tb_1 _ (List.mem_of_getElem? (i := 163) (by decide +kernel))
set_option maxRecDepth 20000 in
theorem t_220 : Cond.code yX9_fault cX9_fault 2 (some .int) ∈ lw_tbl := tb_3 _ (List.mem_of_getElem? (i := 179) rfl)
set_option maxRecDepth 20000 in
theorem t_221 : Cond.fieldLink RX9 330 "CardBowl$Rounds" "planned" "Z" ∈ lw_tbl := tb_2 _ (List.mem_of_getElem? (i := 78) (by decide +kernel))
set_option maxRecDepth 20000 in
theorem t_222 : Cond.fieldLink RX9 333 "CardBowl$Ways" "sought" "Z" ∈ lw_tbl := tb_2 _ (List.mem_of_getElem? (i := 141) (by decide +kernel))
set_option maxRecDepth 20000 in
theorem t_223 : Cond.code yX9_forget cX9_forget 1 none ∈ lw_tbl := tb_3 _ (List.mem_of_getElem? (i := 175) rfl)
set_option maxRecDepth 20000 in
theorem t_224 : Cond.fieldLink RX9 102 "CardBowl$State" "day" "I" ∈ lw_tbl := tb_2 _ (List.mem_of_getElem? (i := 46) (by decide +kernel))
set_option maxRecDepth 20000 in
theorem t_225 : Cond.methodLink RX9 90 yX9_forget ∈ lw_tbl := tb_3 _ (List.mem_of_getElem? (i := 172) (by decide +kernel))
set_option maxRecDepth 20000 in
theorem t_226 : Cond.instanceMethod yX9_forget ∈ lw_tbl := tb_3 _ (List.mem_of_getElem? (i := 174) (by decide +kernel))
theorem t_227 : Cond.selects RX9 yX9_forget yX9_forget ∈ lw_tbl := List.mem_append_left _ (List.mem_of_getElem? (i := 15) (by decide +kernel))
set_option maxRecDepth 20000 in
theorem t_228 : Cond.code yX9_days cX9_days 2 (some .int) ∈ lw_tbl := tb_3 _ (List.mem_of_getElem? (i := 183) rfl)
set_option maxRecDepth 20000 in
theorem t_229 : Cond.methodLink RX9 271 yX9_isImage ∈ lw_tbl := tb_5 _ (List.mem_of_getElem? (i := 98) (by decide +kernel))
set_option maxRecDepth 20000 in
theorem t_230 : Cond.static yX9_isImage ∈ lw_tbl := tb_5 _ (List.mem_of_getElem? (i := 99) (by decide +kernel))
set_option maxRecDepth 20000 in
theorem t_231 : Cond.code yX9_beside cX9_beside 3 (some .int) ∈ lw_tbl := tb_5 _ (List.mem_of_getElem? (i := 97) rfl)
set_option maxRecDepth 20000 in
theorem t_232 : Cond.code yX9_back cX9_back 3 (some .int) ∈ lw_tbl := tb_5 _ (List.mem_of_getElem? (i := 138) rfl)
set_option maxRecDepth 20000 in
theorem t_233 : Cond.fieldLink RX9 138 "CardBowl$Slot" "filled" "Z" ∈ lw_tbl := tb_2 _ (List.mem_of_getElem? (i := 185) (by decide +kernel))
set_option maxRecDepth 20000 in
theorem t_234 : Cond.code yX9_done cX9_done 9 (some .int) ∈ lw_tbl := tb_4 _ (List.mem_of_getElem? (i := 67) rfl)
set_option maxRecDepth 20000 in
theorem t_235 : Cond.code yX9_write cX9_write 6 (some .int) ∈ lw_tbl := tb_5 _ (List.mem_of_getElem? (i := 153) rfl)
set_option maxRecDepth 20000 in
theorem t_236 : Cond.code yX9_paste cX9_paste 8 (some .int) ∈ lw_tbl := tb_5 _ (List.mem_of_getElem? (i := 161) rfl)
set_option maxRecDepth 20000 in
theorem t_237 : Cond.code yJ7_fill_53178 cJ7_fill_53178 4 none ∈ lw_tbl := tb_3 _ (List.mem_of_getElem? (i := 23) rfl)
set_option maxRecDepth 20000 in
theorem t_238 : Cond.code yJ7_fill_d0a16 cJ7_fill_d0a16 5 none ∈ lw_tbl := tb_5 _ (List.mem_of_getElem? (i := 149) rfl)
set_option maxRecDepth 20000 in
theorem t_239 : Cond.fieldLink RX5 15 "CardBowl$Slot" "filled" "Z" ∈ lw_tbl := tb_2 _ (List.mem_of_getElem? (i := 184) (by decide +kernel))
set_option maxRecDepth 20000 in
theorem t_240 : Cond.fieldLink RX5 19 "CardBowl$Slot" "width" "I" ∈ lw_tbl := tb_2 _ (List.mem_of_getElem? (i := 186) (by decide +kernel))
set_option maxRecDepth 20000 in
theorem t_241 : Cond.fieldLink RX5 23 "CardBowl$Slot" "size" "I" ∈ lw_tbl := tb_2 _ (List.mem_of_getElem? (i := 188) (by decide +kernel))
set_option maxRecDepth 20000 in
theorem t_242 : Cond.initialized RJ7 ∈ lw_tbl := tb_1 _ (List.mem_of_getElem? (i := 13) (by decide +kernel))
set_option maxRecDepth 20000 in
theorem t_243 : Cond.methodLink RX5 26 yJ7_fill_d0a16 ∈ lw_tbl := tb_5 _ (List.mem_of_getElem? (i := 147) (by decide +kernel))
set_option maxRecDepth 20000 in
theorem t_244 : Cond.static yJ7_fill_d0a16 ∈ lw_tbl := tb_5 _ (List.mem_of_getElem? (i := 148) (by decide +kernel))
set_option maxRecDepth 20000 in
theorem t_245 : Cond.code yX5_lay cX5_lay 3 none ∈ lw_tbl := tb_5 _ (List.mem_of_getElem? (i := 146) rfl)
set_option maxRecDepth 20000 in
theorem t_246 : Cond.methodLink RX9 306 yX5_lay ∈ lw_tbl := tb_5 _ (List.mem_of_getElem? (i := 143) (by decide +kernel))
set_option maxRecDepth 20000 in
theorem t_247 : Cond.instanceMethod yX5_lay ∈ lw_tbl := tb_5 _ (List.mem_of_getElem? (i := 144) (by decide +kernel))
set_option maxRecDepth 20000 in
theorem t_248 : Cond.selects RX5 yX5_lay yX5_lay ∈ lw_tbl := tb_5 _ (List.mem_of_getElem? (i := 145) (by decide +kernel))
set_option maxRecDepth 20000 in
theorem t_249 : Cond.code yX9_row cX9_row 4 (some .int) ∈ lw_tbl := tb_5 _ (List.mem_of_getElem? (i := 142) rfl)
set_option maxRecDepth 20000 in
theorem t_250 : Cond.code yX9_feedNumber cX9_feedNumber 3 none ∈ lw_tbl := tb_3 _ (List.mem_of_getElem? (i := 1) rfl)
set_option maxRecDepth 20000 in
theorem t_251 : Cond.methodLink RX9 67 yX9_feedNumber ∈ lw_tbl := tb_2 _ (List.mem_of_getElem? (i := 238) (by decide +kernel))
set_option maxRecDepth 20000 in
theorem t_252 : Cond.instanceMethod yX9_feedNumber ∈ lw_tbl := tb_3 _ (List.mem_of_getElem? (i := 0) (by decide +kernel))
theorem t_253 : Cond.selects RX9 yX9_feedNumber yX9_feedNumber ∈ lw_tbl := List.mem_append_left _ (List.mem_of_getElem? (i := 0) (by decide +kernel))
set_option maxRecDepth 20000 in
theorem t_254 : Cond.code yX9_feed cX9_feed 6 (some .int) ∈ lw_tbl := tb_2 _ (List.mem_of_getElem? (i := 237) rfl)
set_option maxRecDepth 20000 in
theorem t_255 : Cond.fieldLink RX6 56 "CardBowl$Deeds" "size" "I" ∈ lw_tbl := tb_2 _ (List.mem_of_getElem? (i := 10) (by decide +kernel))
set_option maxRecDepth 20000 in
theorem t_256 : Cond.code yX6_followCalls cX6_followCalls 3 none ∈ lw_tbl := tb_5 _ (List.mem_of_getElem? (i := 71) rfl)
set_option maxRecDepth 20000 in
theorem t_257 : Cond.methodLink RX9 237 yX6_followCalls ∈ lw_tbl := tb_5 _ (List.mem_of_getElem? (i := 68) (by decide +kernel))
set_option maxRecDepth 20000 in
theorem t_258 : Cond.instanceMethod yX6_followCalls ∈ lw_tbl := tb_5 _ (List.mem_of_getElem? (i := 69) (by decide +kernel))
set_option maxRecDepth 20000 in
theorem t_259 : Cond.selects RX6 yX6_followCalls yX6_followCalls ∈ lw_tbl := tb_5 _ (List.mem_of_getElem? (i := 70) (by decide +kernel))
set_option maxRecDepth 20000 in
theorem t_260 : Cond.code yX9_rings cX9_rings 4 (some .int) ∈ lw_tbl := tb_5 _ (List.mem_of_getElem? (i := 67) rfl)
set_option maxRecDepth 20000 in
theorem t_261 : Cond.fieldLink RX1 33 "CardBowl$Debts" "size" "I" ∈ lw_tbl := tb_1 _ (List.mem_of_getElem? (i := 209) (by decide +kernel))
set_option maxRecDepth 20000 in
theorem t_262 : Cond.code yX1_overdue cX1_overdue 4 (some .int) ∈ lw_tbl := tb_5 _ (List.mem_of_getElem? (i := 112) rfl)
set_option maxRecDepth 20000 in
theorem t_263 : Cond.code yX9_filledSlots cX9_filledSlots 3 (some .int) ∈ lw_tbl := tb_5 _ (List.mem_of_getElem? (i := 116) rfl)
set_option maxRecDepth 20000 in
theorem t_264 : Cond.fieldLink RX9 274 "CardBowl$State" "code" "LCardBowl$Code;" ∈ lw_tbl := tb_2 _ (List.mem_of_getElem? (i := 36) (by decide +kernel))
set_option maxRecDepth 20000 in
theorem t_265 : Cond.fieldLink RX9 280 "CardBowl$Code" "lines" "I" ∈ lw_tbl := tb_1 _ (List.mem_of_getElem? (i := 119) (by decide +kernel))
set_option maxRecDepth 20000 in
theorem t_266 : Cond.fieldLink RX9 161 "CardBowl$State" "debts" "LCardBowl$Debts;" ∈ lw_tbl := tb_2 _ (List.mem_of_getElem? (i := 39) (by decide +kernel))
set_option maxRecDepth 20000 in
theorem t_267 : Cond.fieldLink RX9 279 "CardBowl$Debts" "size" "I" ∈ lw_tbl := tb_1 _ (List.mem_of_getElem? (i := 210) (by decide +kernel))
set_option maxRecDepth 20000 in
theorem t_268 : Cond.methodLink RX9 285 yX1_overdue ∈ lw_tbl := tb_5 _ (List.mem_of_getElem? (i := 109) (by decide +kernel))
set_option maxRecDepth 20000 in
theorem t_269 : Cond.instanceMethod yX1_overdue ∈ lw_tbl := tb_5 _ (List.mem_of_getElem? (i := 110) (by decide +kernel))
set_option maxRecDepth 20000 in
theorem t_270 : Cond.selects RX1 yX1_overdue yX1_overdue ∈ lw_tbl := tb_5 _ (List.mem_of_getElem? (i := 111) (by decide +kernel))
set_option maxRecDepth 20000 in
theorem t_271 : Cond.fieldLink RX9 113 "CardBowl$State" "deeds" "LCardBowl$Deeds;" ∈ lw_tbl := tb_2 _ (List.mem_of_getElem? (i := 41) (by decide +kernel))
set_option maxRecDepth 20000 in
theorem t_272 : Cond.fieldLink RX9 288 "CardBowl$Deeds" "size" "I" ∈ lw_tbl := tb_2 _ (List.mem_of_getElem? (i := 11) (by decide +kernel))
set_option maxRecDepth 20000 in
theorem t_273 : Cond.fieldLink RX9 289 "CardBowl$State" "paid" "I" ∈ lw_tbl := tb_2 _ (List.mem_of_getElem? (i := 49) (by decide +kernel))
set_option maxRecDepth 20000 in
theorem t_274 : Cond.fieldLink RX9 292 "CardBowl$Town" "introducers" "I" ∈ lw_tbl := tb_1 _ (List.mem_of_getElem? (i := 52) (by decide +kernel))
set_option maxRecDepth 20000 in
theorem t_275 : Cond.fieldLink RX9 295 "CardBowl$Town" "fresh" "I" ∈ lw_tbl := tb_1 _ (List.mem_of_getElem? (i := 47) (by decide +kernel))
set_option maxRecDepth 20000 in
theorem t_276 : Cond.methodLink RX9 298 yX9_filledSlots ∈ lw_tbl := tb_5 _ (List.mem_of_getElem? (i := 113) (by decide +kernel))
set_option maxRecDepth 20000 in
theorem t_277 : Cond.instanceMethod yX9_filledSlots ∈ lw_tbl := tb_5 _ (List.mem_of_getElem? (i := 115) (by decide +kernel))
theorem t_278 : Cond.selects RX9 yX9_filledSlots yX9_filledSlots ∈ lw_tbl := List.mem_append_left _ (List.mem_of_getElem? (i := 42) (by decide +kernel))
set_option maxRecDepth 20000 in
theorem t_279 : Cond.code yX9_count cX9_count 2 (some .int) ∈ lw_tbl := tb_5 _ (List.mem_of_getElem? (i := 108) rfl)
set_option maxRecDepth 20000 in
theorem t_280 : Cond.fieldLink RX7 46 "CardBowl$Town" "fresh" "I" ∈ lw_tbl := tb_1 _ (List.mem_of_getElem? (i := 45) (by decide +kernel))
set_option maxRecDepth 20000 in
theorem t_281 : Cond.methodLink RX7 49 yJ7_fill_53178 ∈ lw_tbl := tb_3 _ (List.mem_of_getElem? (i := 21) (by decide +kernel))
set_option maxRecDepth 20000 in
theorem t_282 : Cond.static yJ7_fill_53178 ∈ lw_tbl := tb_3 _ (List.mem_of_getElem? (i := 22) (by decide +kernel))
set_option maxRecDepth 20000 in
theorem t_283 : Cond.code yX7_clear cX7_clear 1 none ∈ lw_tbl := tb_3 _ (List.mem_of_getElem? (i := 20) rfl)
set_option maxRecDepth 20000 in
theorem t_284 : Cond.fieldLink RX0 33 "CardBowl$Code" "lines" "I" ∈ lw_tbl := tb_1 _ (List.mem_of_getElem? (i := 117) (by decide +kernel))
set_option maxRecDepth 20000 in
theorem t_285 : Cond.fieldLink RX0 37 "CardBowl$Code" "used" "I" ∈ lw_tbl := tb_1 _ (List.mem_of_getElem? (i := 120) (by decide +kernel))
set_option maxRecDepth 20000 in
theorem t_286 : Cond.code yX0_clear cX0_clear 1 none ∈ lw_tbl := tb_3 _ (List.mem_of_getElem? (i := 27) rfl)
set_option maxRecDepth 20000 in
theorem t_287 : Cond.fieldLink RX3 42 "CardBowl$Reader" "next" "I" ∈ lw_tbl := tb_1 _ (List.mem_of_getElem? (i := 169) (by decide +kernel))
set_option maxRecDepth 20000 in
theorem t_288 : Cond.fieldLink RX3 39 "CardBowl$Reader" "size" "I" ∈ lw_tbl := tb_1 _ (List.mem_of_getElem? (i := 167) (by decide +kernel))
set_option maxRecDepth 20000 in
theorem t_289 : Cond.fieldLink RX3 179 "CardBowl$Reader" "begin" "I" ∈ lw_tbl := tb_1 _ (List.mem_of_getElem? (i := 168) (by decide +kernel))
set_option maxRecDepth 20000 in
theorem t_290 : Cond.fieldLink RX3 55 "CardBowl$Reader" "kind" "I" ∈ lw_tbl := tb_1 _ (List.mem_of_getElem? (i := 170) (by decide +kernel))
set_option maxRecDepth 20000 in
theorem t_291 : Cond.code yX3_advance cX3_advance 1 none ∈ lw_tbl := tb_3 _ (List.mem_of_getElem? (i := 31) rfl)
set_option maxRecDepth 20000 in
theorem t_292 : Cond.fieldLink RX3 29 "CardBowl$Reader" "text" "[B" ∈ lw_tbl := tb_1 _ (List.mem_of_getElem? (i := 166) (by decide +kernel))
set_option maxRecDepth 20000 in
theorem t_293 : Cond.methodLink RX3 33 Lib.Math.min.name ∈ lw_tbl := tb_3 _ (List.mem_of_getElem? (i := 14) (by decide +kernel))
set_option maxRecDepth 20000 in
theorem t_294 : Cond.static Lib.Math.min.name ∈ lw_tbl := tb_3 _ (List.mem_of_getElem? (i := 15) (by decide +kernel))
set_option maxRecDepth 20000 in
theorem t_295 : Cond.initialized "java/lang/Math" ∈ lw_tbl := tb_1 _ (List.mem_of_getElem? (i := 12) (by decide +kernel))
set_option maxRecDepth 20000 in
theorem t_296 : Cond.code Lib.Math.min.name Lib.Math.min.code 2 (some .int) ∈ lw_tbl := tb_3 _ (List.mem_of_getElem? (i := 16) rfl)
set_option maxRecDepth 20000 in
theorem t_297 : Cond.fieldLink RX3 45 "CardBowl$Reader" "fault" "I" ∈ lw_tbl := tb_1 _ (List.mem_of_getElem? (i := 162) (by decide +kernel))
set_option maxRecDepth 20000 in
theorem t_298 : Cond.methodLink RX3 48 yX7_clear ∈ lw_tbl := tb_3 _ (List.mem_of_getElem? (i := 17) (by decide +kernel))
set_option maxRecDepth 20000 in
theorem t_299 : Cond.instanceMethod yX7_clear ∈ lw_tbl := tb_3 _ (List.mem_of_getElem? (i := 18) (by decide +kernel))
set_option maxRecDepth 20000 in
theorem t_300 : Cond.selects RX7 yX7_clear yX7_clear ∈ lw_tbl := tb_3 _ (List.mem_of_getElem? (i := 19) (by decide +kernel))
set_option maxRecDepth 20000 in
theorem t_301 : Cond.methodLink RX3 51 yX0_clear ∈ lw_tbl := tb_3 _ (List.mem_of_getElem? (i := 24) (by decide +kernel))
set_option maxRecDepth 20000 in
theorem t_302 : Cond.instanceMethod yX0_clear ∈ lw_tbl := tb_3 _ (List.mem_of_getElem? (i := 25) (by decide +kernel))
set_option maxRecDepth 20000 in
theorem t_303 : Cond.selects RX0 yX0_clear yX0_clear ∈ lw_tbl := tb_3 _ (List.mem_of_getElem? (i := 26) (by decide +kernel))
set_option maxRecDepth 20000 in
theorem t_304 : Cond.methodLink RX3 52 yX3_advance ∈ lw_tbl := tb_3 _ (List.mem_of_getElem? (i := 28) (by decide +kernel))
set_option maxRecDepth 20000 in
theorem t_305 : Cond.instanceMethod yX3_advance ∈ lw_tbl := tb_3 _ (List.mem_of_getElem? (i := 30) (by decide +kernel))
theorem t_306 : Cond.selects RX3 yX3_advance yX3_advance ∈ lw_tbl := List.mem_append_left _ (List.mem_of_getElem? (i := 1) (by decide +kernel))
set_option maxRecDepth 20000 in
theorem t_307 : Cond.code yX3_read cX3_read 5 none ∈ lw_tbl := tb_3 _ (List.mem_of_getElem? (i := 13) rfl)
set_option maxRecDepth 20000 in
theorem t_308 : Cond.methodLink RX7 55 arraycopyName ∈ lw_tbl := tb_3 _ (List.mem_of_getElem? (i := 158) (by decide +kernel))
set_option maxRecDepth 20000 in
theorem t_309 : Cond.native arraycopyName ∈ lw_tbl := tb_3 _ (List.mem_of_getElem? (i := 160) (by decide +kernel))
set_option maxRecDepth 20000 in
theorem t_310 : Cond.static arraycopyName ∈ lw_tbl := tb_3 _ (List.mem_of_getElem? (i := 159) (by decide +kernel))
set_option maxRecDepth 20000 in
theorem t_311 : Cond.initialized "java/lang/System" ∈ lw_tbl := tb_1 _ (List.mem_of_getElem? (i := 18) (by decide +kernel))
set_option maxRecDepth 20000 in
theorem t_312 : Cond.code yX7_copy cX7_copy 2 none ∈ lw_tbl := tb_3 _ (List.mem_of_getElem? (i := 157) rfl)
set_option maxRecDepth 20000 in
theorem t_313 : Cond.methodLink RX0 40 arraycopyName ∈ lw_tbl := tb_3 _ (List.mem_of_getElem? (i := 165) (by decide +kernel))
set_option maxRecDepth 20000 in
theorem t_314 : Cond.code yX0_copy cX0_copy 2 none ∈ lw_tbl := tb_3 _ (List.mem_of_getElem? (i := 164) rfl)
set_option maxRecDepth 20000 in
theorem t_315 : Cond.methodLink RX1 37 yJ7_fill_53178 ∈ lw_tbl := tb_3 _ (List.mem_of_getElem? (i := 170) (by decide +kernel))
set_option maxRecDepth 20000 in
theorem t_316 : Cond.code yX1_clear cX1_clear 1 none ∈ lw_tbl := tb_3 _ (List.mem_of_getElem? (i := 169) rfl)
set_option maxRecDepth 20000 in
theorem t_317 : Cond.methodLink RX1 43 arraycopyName ∈ lw_tbl := tb_5 _ (List.mem_of_getElem? (i := 129) (by decide +kernel))
set_option maxRecDepth 20000 in
theorem t_318 : Cond.code yX1_copy cX1_copy 2 none ∈ lw_tbl := tb_5 _ (List.mem_of_getElem? (i := 128) rfl)
set_option maxRecDepth 20000 in
theorem t_319 : Cond.fieldLink RX2 24 "CardBowl$Deeds" "size" "I" ∈ lw_tbl := tb_2 _ (List.mem_of_getElem? (i := 9) (by decide +kernel))
set_option maxRecDepth 20000 in
theorem t_320 : Cond.methodLink RX2 28 arraycopyName ∈ lw_tbl := tb_5 _ (List.mem_of_getElem? (i := 134) (by decide +kernel))
set_option maxRecDepth 20000 in
theorem t_321 : Cond.code yX2_copy cX2_copy 2 none ∈ lw_tbl := tb_5 _ (List.mem_of_getElem? (i := 133) rfl)
set_option maxRecDepth 20000 in
theorem t_322 : Cond.methodLink RX6 46 yX7_copy ∈ lw_tbl := tb_3 _ (List.mem_of_getElem? (i := 154) (by decide +kernel))
set_option maxRecDepth 20000 in
theorem t_323 : Cond.instanceMethod yX7_copy ∈ lw_tbl := tb_3 _ (List.mem_of_getElem? (i := 155) (by decide +kernel))
set_option maxRecDepth 20000 in
theorem t_324 : Cond.selects RX7 yX7_copy yX7_copy ∈ lw_tbl := tb_3 _ (List.mem_of_getElem? (i := 156) (by decide +kernel))
set_option maxRecDepth 20000 in
theorem t_325 : Cond.methodLink RX6 50 yX0_copy ∈ lw_tbl := tb_3 _ (List.mem_of_getElem? (i := 161) (by decide +kernel))
set_option maxRecDepth 20000 in
theorem t_326 : Cond.instanceMethod yX0_copy ∈ lw_tbl := tb_3 _ (List.mem_of_getElem? (i := 162) (by decide +kernel))
set_option maxRecDepth 20000 in
theorem t_327 : Cond.selects RX0 yX0_copy yX0_copy ∈ lw_tbl := tb_3 _ (List.mem_of_getElem? (i := 163) (by decide +kernel))
set_option maxRecDepth 20000 in
theorem t_328 : Cond.methodLink RX6 53 yX1_clear ∈ lw_tbl := tb_3 _ (List.mem_of_getElem? (i := 166) (by decide +kernel))
set_option maxRecDepth 20000 in
theorem t_329 : Cond.instanceMethod yX1_clear ∈ lw_tbl := tb_3 _ (List.mem_of_getElem? (i := 167) (by decide +kernel))
set_option maxRecDepth 20000 in
theorem t_330 : Cond.selects RX1 yX1_clear yX1_clear ∈ lw_tbl := tb_3 _ (List.mem_of_getElem? (i := 168) (by decide +kernel))
set_option maxRecDepth 20000 in
theorem t_331 : Cond.fieldLink RX6 60 "CardBowl$Town" "told" "[I" ∈ lw_tbl := tb_1 _ (List.mem_of_getElem? (i := 82) (by decide +kernel))
set_option maxRecDepth 20000 in
theorem t_332 : Cond.methodLink RX6 63 arraycopyName ∈ lw_tbl := tb_3 _ (List.mem_of_getElem? (i := 171) (by decide +kernel))
set_option maxRecDepth 20000 in
theorem t_333 : Cond.fieldLink RX6 69 "CardBowl$State" "day" "I" ∈ lw_tbl := tb_2 _ (List.mem_of_getElem? (i := 44) (by decide +kernel))
set_option maxRecDepth 20000 in
theorem t_334 : Cond.fieldLink RX6 72 "CardBowl$State" "paid" "I" ∈ lw_tbl := tb_2 _ (List.mem_of_getElem? (i := 48) (by decide +kernel))
set_option maxRecDepth 20000 in
theorem t_335 : Cond.code yX6_begin cX6_begin 3 none ∈ lw_tbl := tb_3 _ (List.mem_of_getElem? (i := 153) rfl)
set_option maxRecDepth 20000 in
theorem t_336 : Cond.methodLink RX9 71 yX3_read ∈ lw_tbl := tb_3 _ (List.mem_of_getElem? (i := 10) (by decide +kernel))
set_option maxRecDepth 20000 in
theorem t_337 : Cond.instanceMethod yX3_read ∈ lw_tbl := tb_3 _ (List.mem_of_getElem? (i := 11) (by decide +kernel))
set_option maxRecDepth 20000 in
theorem t_338 : Cond.selects RX3 yX3_read yX3_read ∈ lw_tbl := tb_3 _ (List.mem_of_getElem? (i := 12) (by decide +kernel))
set_option maxRecDepth 20000 in
theorem t_339 : Cond.fieldLink RX9 78 "CardBowl$Reader" "town" "LCardBowl$Town;" ∈ lw_tbl := tb_1 _ (List.mem_of_getElem? (i := 159) (by decide +kernel))
set_option maxRecDepth 20000 in
theorem t_340 : Cond.fieldLink RX9 82 "CardBowl$Reader" "code" "LCardBowl$Code;" ∈ lw_tbl := tb_1 _ (List.mem_of_getElem? (i := 161) (by decide +kernel))
set_option maxRecDepth 20000 in
theorem t_341 : Cond.methodLink RX9 86 yX6_begin ∈ lw_tbl := tb_3 _ (List.mem_of_getElem? (i := 150) (by decide +kernel))
set_option maxRecDepth 20000 in
theorem t_342 : Cond.instanceMethod yX6_begin ∈ lw_tbl := tb_3 _ (List.mem_of_getElem? (i := 151) (by decide +kernel))
set_option maxRecDepth 20000 in
theorem t_343 : Cond.selects RX6 yX6_begin yX6_begin ∈ lw_tbl := tb_3 _ (List.mem_of_getElem? (i := 152) (by decide +kernel))
set_option maxRecDepth 20000 in
theorem t_344 : Cond.code yX9_town cX9_town 1 (some .int) ∈ lw_tbl := tb_3 _ (List.mem_of_getElem? (i := 9) rfl)
set_option maxRecDepth 20000 in
theorem t_345 : Cond.methodLink RX6 75 yX1_copy ∈ lw_tbl := tb_5 _ (List.mem_of_getElem? (i := 125) (by decide +kernel))
set_option maxRecDepth 20000 in
theorem t_346 : Cond.instanceMethod yX1_copy ∈ lw_tbl := tb_5 _ (List.mem_of_getElem? (i := 126) (by decide +kernel))
set_option maxRecDepth 20000 in
theorem t_347 : Cond.selects RX1 yX1_copy yX1_copy ∈ lw_tbl := tb_5 _ (List.mem_of_getElem? (i := 127) (by decide +kernel))
set_option maxRecDepth 20000 in
theorem t_348 : Cond.methodLink RX6 78 yX2_copy ∈ lw_tbl := tb_5 _ (List.mem_of_getElem? (i := 130) (by decide +kernel))
set_option maxRecDepth 20000 in
theorem t_349 : Cond.instanceMethod yX2_copy ∈ lw_tbl := tb_5 _ (List.mem_of_getElem? (i := 131) (by decide +kernel))
set_option maxRecDepth 20000 in
theorem t_350 : Cond.selects RX2 yX2_copy yX2_copy ∈ lw_tbl := tb_5 _ (List.mem_of_getElem? (i := 132) (by decide +kernel))
set_option maxRecDepth 20000 in
theorem t_351 : Cond.code yX6_copy cX6_copy 2 none ∈ lw_tbl := tb_5 _ (List.mem_of_getElem? (i := 124) rfl)
set_option maxRecDepth 20000 in
theorem t_352 : Cond.methodLink RX9 302 yX6_copy ∈ lw_tbl := tb_5 _ (List.mem_of_getElem? (i := 121) (by decide +kernel))
set_option maxRecDepth 20000 in
theorem t_353 : Cond.instanceMethod yX6_copy ∈ lw_tbl := tb_5 _ (List.mem_of_getElem? (i := 122) (by decide +kernel))
set_option maxRecDepth 20000 in
theorem t_354 : Cond.selects RX6 yX6_copy yX6_copy ∈ lw_tbl := tb_5 _ (List.mem_of_getElem? (i := 123) (by decide +kernel))
set_option maxRecDepth 20000 in
theorem t_355 : Cond.code yX9_keep cX9_keep 3 (some .int) ∈ lw_tbl := tb_5 _ (List.mem_of_getElem? (i := 120) rfl)
set_option maxRecDepth 20000 in
theorem t_356 : Cond.code yX10_isHouse cX10_isHouse 2 (some .boolean) ∈ lw_tbl := tb_6 _ (List.mem_of_getElem? (i := 228) rfl)
set_option maxRecDepth 20000 in
theorem t_357 : Cond.methodLink RX10 105 yX10_isHouse ∈ lw_tbl := tb_6 _ (List.mem_of_getElem? (i := 225) (by decide +kernel))
set_option maxRecDepth 20000 in
theorem t_358 : Cond.instanceMethod yX10_isHouse ∈ lw_tbl := tb_6 _ (List.mem_of_getElem? (i := 227) (by decide +kernel))
theorem t_359 : Cond.selects RX10 yX10_isHouse yX10_isHouse ∈ lw_tbl := List.mem_append_left _ (List.mem_of_getElem? (i := 65) (by decide +kernel))
set_option maxRecDepth 20000 in
theorem t_360 : Cond.code yX10_areTwo cX10_areTwo 3 (some .boolean) ∈ lw_tbl := tb_6 _ (List.mem_of_getElem? (i := 224) rfl)
set_option maxRecDepth 20000 in
theorem t_361 : Cond.code yX10_isRound cX10_isRound 3 (some .boolean) ∈ lw_tbl := tb_7 _ (List.mem_of_getElem? (i := 127) rfl)
set_option maxRecDepth 20000 in
theorem t_362 : Cond.methodLink RX10 315 yX10_areTwo ∈ lw_tbl := tb_6 _ (List.mem_of_getElem? (i := 221) (by decide +kernel))
set_option maxRecDepth 20000 in
theorem t_363 : Cond.instanceMethod yX10_areTwo ∈ lw_tbl := tb_6 _ (List.mem_of_getElem? (i := 223) (by decide +kernel))
theorem t_364 : Cond.selects RX10 yX10_areTwo yX10_areTwo ∈ lw_tbl := List.mem_append_left _ (List.mem_of_getElem? (i := 64) (by decide +kernel))
set_option maxRecDepth 20000 in
theorem t_365 : Cond.code yX10_bars cX10_bars 4 (some .int) ∈ lw_tbl := tb_6 _ (List.mem_of_getElem? (i := 220) rfl)
set_option maxRecDepth 20000 in
theorem t_366 : Cond.code yX10_does cX10_does 4 (some .int) ∈ lw_tbl := tb_7 _ (List.mem_of_getElem? (i := 26) rfl)
set_option maxRecDepth 20000 in
theorem t_367 : Cond.code yX10_meet cX10_meet 4 (some .int) ∈ lw_tbl := tb_7 _ (List.mem_of_getElem? (i := 80) rfl)
set_option maxRecDepth 20000 in
theorem t_368 : Cond.code yX10_known cX10_known 3 (some .int) ∈ lw_tbl := tb_7 _ (List.mem_of_getElem? (i := 22) rfl)
set_option maxRecDepth 20000 in
theorem t_369 : Cond.code yX10_debts cX10_debts 2 (some .int) ∈ lw_tbl := tb_7 _ (List.mem_of_getElem? (i := 95) rfl)
set_option maxRecDepth 20000 in
theorem t_370 : Cond.code yX10_slights cX10_slights 2 (some .int) ∈ lw_tbl := tb_7 _ (List.mem_of_getElem? (i := 107) rfl)
set_option maxRecDepth 20000 in
theorem t_371 : Cond.code yX10_owes cX10_owes 6 (some .int) ∈ lw_tbl := tb_7 _ (List.mem_of_getElem? (i := 119) rfl)
set_option maxRecDepth 20000 in
theorem t_372 : Cond.methodLink RX10 429 yX10_isRound ∈ lw_tbl := tb_7 _ (List.mem_of_getElem? (i := 124) (by decide +kernel))
set_option maxRecDepth 20000 in
theorem t_373 : Cond.instanceMethod yX10_isRound ∈ lw_tbl := tb_7 _ (List.mem_of_getElem? (i := 126) (by decide +kernel))
theorem t_374 : Cond.selects RX10 yX10_isRound yX10_isRound ∈ lw_tbl := List.mem_append_left _ (List.mem_of_getElem? (i := 85) (by decide +kernel))
set_option maxRecDepth 20000 in
theorem t_375 : Cond.code yX10_worth cX10_worth 3 (some .int) ∈ lw_tbl := tb_7 _ (List.mem_of_getElem? (i := 123) rfl)
set_option maxRecDepth 20000 in
theorem t_376 : Cond.code yX10_round cX10_round 5 (some .int) ∈ lw_tbl := tb_7 _ (List.mem_of_getElem? (i := 166) rfl)
set_option maxRecDepth 20000 in
theorem t_377 : Cond.code yX10_over cX10_over 3 (some .int) ∈ lw_tbl := tb_7 _ (List.mem_of_getElem? (i := 162) rfl)
set_option maxRecDepth 20000 in
theorem t_378 : Cond.methodLink RX10 371 yX10_isSlot ∈ lw_tbl := tb_7 _ (List.mem_of_getElem? (i := 85) (by decide +kernel))
set_option maxRecDepth 20000 in
theorem t_379 : Cond.static yX10_isSlot ∈ lw_tbl := tb_7 _ (List.mem_of_getElem? (i := 86) (by decide +kernel))
set_option maxRecDepth 20000 in
theorem t_380 : Cond.code yX10_may cX10_may 11 (some .int) ∈ lw_tbl := tb_7 _ (List.mem_of_getElem? (i := 174) rfl)
set_option maxRecDepth 20000 in
theorem t_381 : Cond.code yX10_fewest cX10_fewest 7 (some .int) ∈ lw_tbl := tb_7 _ (List.mem_of_getElem? (i := 178) rfl)
set_option maxRecDepth 20000 in
theorem t_382 : Cond.code yX10_lost cX10_lost 6 (some .int) ∈ lw_tbl := tb_7 _ (List.mem_of_getElem? (i := 190) rfl)
set_option maxRecDepth 20000 in
theorem t_383 : Cond.code yX10_soon cX10_soon 3 (some .int) ∈ lw_tbl := tb_7 _ (List.mem_of_getElem? (i := 194) rfl)
set_option maxRecDepth 20000 in
theorem t_384 : Cond.code yX10_path cX10_path 4 (some .int) ∈ lw_tbl := tb_7 _ (List.mem_of_getElem? (i := 206) rfl)
set_option maxRecDepth 20000 in
theorem t_385 : Cond.code yX10_reach cX10_reach 2 (some .int) ∈ lw_tbl := tb_7 _ (List.mem_of_getElem? (i := 210) rfl)
set_option maxRecDepth 20000 in
theorem t_386 : Cond.code yX10_drop cX10_drop 5 (some .int) ∈ lw_tbl := tb_7 _ (List.mem_of_getElem? (i := 218) rfl)
set_option maxRecDepth 20000 in
theorem t_387 : Cond.code yX10_tie cX10_tie 3 (some .int) ∈ lw_tbl := tb_7 _ (List.mem_of_getElem? (i := 222) rfl)
set_option maxRecDepth 20000 in
theorem t_388 : Cond.code yX10_ring cX10_ring 2 (some .int) ∈ lw_tbl := tb_7 _ (List.mem_of_getElem? (i := 226) rfl)
set_option maxRecDepth 20000 in
theorem t_389 : Cond.code yX10_debt cX10_debt 5 (some .int) ∈ lw_tbl := tb_7 _ (List.mem_of_getElem? (i := 99) rfl)
set_option maxRecDepth 20000 in
theorem t_390 : Cond.code yX10_first cX10_first 5 (some .int) ∈ lw_tbl := tb_7 _ (List.mem_of_getElem? (i := 115) rfl)
set_option maxRecDepth 20000 in
theorem t_391 : Cond.constant RX10 470 (-2000000000) ∈ lw_tbl := tb_8 _ (List.mem_of_getElem? (i := 8) (by decide +kernel))
set_option maxRecDepth 20000 in
theorem t_392 : Cond.code yX10_house cX10_house 5 (some .int) ∈ lw_tbl := tb_8 _ (List.mem_of_getElem? (i := 6) rfl)
set_option maxRecDepth 20000 in
theorem t_393 : Cond.fieldLink RX10 109 "CardBowlModel" "taped" "I" ∈ lw_tbl := tb_5 _ (List.mem_of_getElem? (i := 178) (by decide +kernel))
set_option maxRecDepth 20000 in
theorem t_394 : Cond.code yX10_end cX10_end 2 (some .int) ∈ lw_tbl := tb_6 _ (List.mem_of_getElem? (i := 77) rfl)
set_option maxRecDepth 20000 in
theorem t_395 : Cond.fieldLink RX10 145 "CardBowlModel" "faultKind" "I" ∈ lw_tbl := tb_5 _ (List.mem_of_getElem? (i := 185) (by decide +kernel))
set_option maxRecDepth 20000 in
theorem t_396 : Cond.code yX10_fault cX10_fault 2 (some .int) ∈ lw_tbl := tb_6 _ (List.mem_of_getElem? (i := 81) rfl)
set_option maxRecDepth 20000 in
theorem t_397 : Cond.code yX10_today cX10_today 1 (some .int) ∈ lw_tbl := tb_6 _ (List.mem_of_getElem? (i := 216) rfl)
set_option maxRecDepth 20000 in
theorem t_398 : Cond.constantLong RX10 289 (60) ∈ lw_tbl := tb_6 _ (List.mem_of_getElem? (i := 212) (by decide +kernel))
set_option maxRecDepth 20000 in
theorem t_399 : Cond.methodLink RX10 291 yX10_today ∈ lw_tbl := tb_6 _ (List.mem_of_getElem? (i := 213) (by decide +kernel))
set_option maxRecDepth 20000 in
theorem t_400 : Cond.instanceMethod yX10_today ∈ lw_tbl := tb_6 _ (List.mem_of_getElem? (i := 215) (by decide +kernel))
theorem t_401 : Cond.selects RX10 yX10_today yX10_today ∈ lw_tbl := List.mem_append_left _ (List.mem_of_getElem? (i := 63) (by decide +kernel))
set_option maxRecDepth 20000 in
theorem t_402 : Cond.code yX10_days cX10_days 2 (some .int) ∈ lw_tbl := tb_6 _ (List.mem_of_getElem? (i := 211) rfl)
set_option maxRecDepth 20000 in
theorem t_403 : Cond.constantLong RX10 99 (2) ∈ lw_tbl := tb_6 _ (List.mem_of_getElem? (i := 62) (by decide +kernel))
set_option maxRecDepth 20000 in
theorem t_404 : Cond.code yX10_beside cX10_beside 5 (some .int) ∈ lw_tbl := tb_8 _ (List.mem_of_getElem? (i := 12) rfl)
set_option maxRecDepth 20000 in
theorem t_405 : Cond.code yX10_back cX10_back 3 (some .int) ∈ lw_tbl := tb_6 _ (List.mem_of_getElem? (i := 69) rfl)
set_option maxRecDepth 20000 in
theorem t_406 : Cond.code yX10_done cX10_done 11 (some .int) ∈ lw_tbl := tb_7 _ (List.mem_of_getElem? (i := 84) rfl)
set_option maxRecDepth 20000 in
theorem t_407 : Cond.code yX10_write cX10_write 5 (some .int) ∈ lw_tbl := tb_8 _ (List.mem_of_getElem? (i := 24) rfl)
set_option maxRecDepth 20000 in
theorem t_408 : Cond.code yX10_paste cX10_paste 7 (some .int) ∈ lw_tbl := tb_8 _ (List.mem_of_getElem? (i := 31) rfl)
set_option maxRecDepth 20000 in
theorem t_409 : Cond.code yX10_count cX10_count 4 (some .int) ∈ lw_tbl := tb_8 _ (List.mem_of_getElem? (i := 16) rfl)
set_option maxRecDepth 20000 in
theorem t_410 : Cond.code yX10_feed cX10_feed 7 (some .int) ∈ lw_tbl := tb_6 _ (List.mem_of_getElem? (i := 73) rfl)
set_option maxRecDepth 20000 in
theorem t_411 : Cond.code yX10_row cX10_row 5 (some .int) ∈ lw_tbl := tb_8 _ (List.mem_of_getElem? (i := 20) rfl)
set_option maxRecDepth 20000 in
theorem t_412 : Cond.code yX10_keep cX10_keep 3 (some .int) ∈ lw_tbl := tb_6 _ (List.mem_of_getElem? (i := 61) rfl)
set_option maxRecDepth 20000 in
theorem t_413 : Cond.code yX10_callsAll cX10_callsAll 2 none ∈ lw_tbl := tb_7 _ (List.mem_of_getElem? (i := 230) rfl)
set_option maxRecDepth 20000 in
theorem t_414 : Cond.methodLink RX10 462 yX10_callsAll ∈ lw_tbl := tb_7 _ (List.mem_of_getElem? (i := 227) (by decide +kernel))
set_option maxRecDepth 20000 in
theorem t_415 : Cond.instanceMethod yX10_callsAll ∈ lw_tbl := tb_7 _ (List.mem_of_getElem? (i := 229) (by decide +kernel))
theorem t_416 : Cond.selects RX10 yX10_callsAll yX10_callsAll ∈ lw_tbl := List.mem_append_left _ (List.mem_of_getElem? (i := 99) (by decide +kernel))
set_option maxRecDepth 20000 in
theorem t_417 : Cond.code yX10_rings cX10_rings 4 (some .int) ∈ lw_tbl := tb_8 _ (List.mem_of_getElem? (i := 2) rfl)
set_option maxRecDepth 20000 in
theorem t_418 : Cond.fieldLink RX10 112 "CardBowlModel" "size" "I" ∈ lw_tbl := tb_5 _ (List.mem_of_getElem? (i := 180) (by decide +kernel))
set_option maxRecDepth 20000 in
theorem t_419 : Cond.code yX10_see cX10_see 2 (some .int) ∈ lw_tbl := tb_6 _ (List.mem_of_getElem? (i := 93) rfl)
set_option maxRecDepth 20000 in
theorem t_420 : Cond.code yX10_good cX10_good 1 (some .boolean) ∈ lw_tbl := tb_6 _ (List.mem_of_getElem? (i := 102) rfl)
set_option maxRecDepth 20000 in
theorem t_421 : Cond.fieldLink RX10 115 "CardBowlModel" "at" "I" ∈ lw_tbl := tb_5 _ (List.mem_of_getElem? (i := 181) (by decide +kernel))
set_option maxRecDepth 20000 in
theorem t_422 : Cond.methodLink RX10 118 yX10_see ∈ lw_tbl := tb_6 _ (List.mem_of_getElem? (i := 90) (by decide +kernel))
set_option maxRecDepth 20000 in
theorem t_423 : Cond.instanceMethod yX10_see ∈ lw_tbl := tb_6 _ (List.mem_of_getElem? (i := 92) (by decide +kernel))
theorem t_424 : Cond.selects RX10 yX10_see yX10_see ∈ lw_tbl := List.mem_append_left _ (List.mem_of_getElem? (i := 44) (by decide +kernel))
set_option maxRecDepth 20000 in
theorem t_425 : Cond.fieldLink RX10 122 "CardBowlModel" "from" "I" ∈ lw_tbl := tb_5 _ (List.mem_of_getElem? (i := 182) (by decide +kernel))
set_option maxRecDepth 20000 in
theorem t_426 : Cond.fieldLink RX10 125 "CardBowlModel" "token" "I" ∈ lw_tbl := tb_5 _ (List.mem_of_getElem? (i := 183) (by decide +kernel))
set_option maxRecDepth 20000 in
theorem t_427 : Cond.code yX10_advance cX10_advance 2 none ∈ lw_tbl := tb_6 _ (List.mem_of_getElem? (i := 89) rfl)
set_option maxRecDepth 20000 in
theorem t_428 : Cond.code yX10_ofHouse cX10_ofHouse 3 (some .int) ∈ lw_tbl := tb_6 _ (List.mem_of_getElem? (i := 207) rfl)
set_option maxRecDepth 20000 in
theorem t_429 : Cond.methodLink RX10 166 yX10_advance ∈ lw_tbl := tb_6 _ (List.mem_of_getElem? (i := 86) (by decide +kernel))
set_option maxRecDepth 20000 in
theorem t_430 : Cond.instanceMethod yX10_advance ∈ lw_tbl := tb_6 _ (List.mem_of_getElem? (i := 88) (by decide +kernel))
theorem t_431 : Cond.selects RX10 yX10_advance yX10_advance ∈ lw_tbl := List.mem_append_left _ (List.mem_of_getElem? (i := 43) (by decide +kernel))
set_option maxRecDepth 20000 in
theorem t_432 : Cond.methodLink RX10 148 yX10_good ∈ lw_tbl := tb_6 _ (List.mem_of_getElem? (i := 99) (by decide +kernel))
set_option maxRecDepth 20000 in
theorem t_433 : Cond.instanceMethod yX10_good ∈ lw_tbl := tb_6 _ (List.mem_of_getElem? (i := 101) (by decide +kernel))
theorem t_434 : Cond.selects RX10 yX10_good yX10_good ∈ lw_tbl := List.mem_append_left _ (List.mem_of_getElem? (i := 45) (by decide +kernel))
set_option maxRecDepth 20000 in
theorem t_435 : Cond.methodLink RX10 286 yX10_ofHouse ∈ lw_tbl := tb_6 _ (List.mem_of_getElem? (i := 204) (by decide +kernel))
set_option maxRecDepth 20000 in
theorem t_436 : Cond.instanceMethod yX10_ofHouse ∈ lw_tbl := tb_6 _ (List.mem_of_getElem? (i := 206) (by decide +kernel))
theorem t_437 : Cond.selects RX10 yX10_ofHouse yX10_ofHouse ∈ lw_tbl := List.mem_append_left _ (List.mem_of_getElem? (i := 62) (by decide +kernel))
set_option maxRecDepth 20000 in
theorem t_438 : Cond.code yX10_town cX10_town 2 (some .int) ∈ lw_tbl := tb_6 _ (List.mem_of_getElem? (i := 85) rfl)
set_option maxRecDepth 20000 in
theorem t_439 : Cond.classLink RL 7 RX9 ∈ lw_tbl := tb_1 _ (List.mem_of_getElem? (i := 20) (by decide +kernel))
set_option maxRecDepth 20000 in
theorem t_440 : Cond.instantiable RX9 10 ∈ lw_tbl := tb_1 _ (List.mem_of_getElem? (i := 21) (by decide +kernel))
set_option maxRecDepth 20000 in
theorem t_441 : Cond.methodLink RL 9 yX9_init ∈ lw_tbl := tb_1 _ (List.mem_of_getElem? (i := 22) (by decide +kernel))
set_option maxRecDepth 20000 in
theorem t_442 : Cond.instanceMethod yX9_init ∈ lw_tbl := tb_1 _ (List.mem_of_getElem? (i := 23) (by decide +kernel))
set_option maxRecDepth 20000 in
theorem t_443 : Cond.classLink RL 10 RX10 ∈ lw_tbl := tb_5 _ (List.mem_of_getElem? (i := 167) (by decide +kernel))
set_option maxRecDepth 20000 in
theorem t_444 : Cond.instantiable RX10 41 ∈ lw_tbl := tb_5 _ (List.mem_of_getElem? (i := 168) (by decide +kernel))
set_option maxRecDepth 20000 in
theorem t_445 : Cond.methodLink RL 12 yX10_init ∈ lw_tbl := tb_5 _ (List.mem_of_getElem? (i := 169) (by decide +kernel))
set_option maxRecDepth 20000 in
theorem t_446 : Cond.instanceMethod yX10_init ∈ lw_tbl := tb_5 _ (List.mem_of_getElem? (i := 170) (by decide +kernel))
set_option maxRecDepth 20000 in
theorem t_447 : Cond.methodLink RL 13 yX9_feed ∈ lw_tbl := tb_2 _ (List.mem_of_getElem? (i := 234) (by decide +kernel))
set_option maxRecDepth 20000 in
theorem t_448 : Cond.instanceMethod yX9_feed ∈ lw_tbl := tb_2 _ (List.mem_of_getElem? (i := 235) (by decide +kernel))
set_option maxRecDepth 20000 in
theorem t_449 : Cond.selects RX9 yX9_feed yX9_feed ∈ lw_tbl := tb_2 _ (List.mem_of_getElem? (i := 236) (by decide +kernel))
set_option maxRecDepth 20000 in
theorem t_450 : Cond.methodLink RL 17 yX10_feed ∈ lw_tbl := tb_6 _ (List.mem_of_getElem? (i := 70) (by decide +kernel))
set_option maxRecDepth 20000 in
theorem t_451 : Cond.instanceMethod yX10_feed ∈ lw_tbl := tb_6 _ (List.mem_of_getElem? (i := 71) (by decide +kernel))
set_option maxRecDepth 20000 in
theorem t_452 : Cond.selects RX10 yX10_feed yX10_feed ∈ lw_tbl := tb_6 _ (List.mem_of_getElem? (i := 72) (by decide +kernel))
set_option maxRecDepth 20000 in
theorem t_453 : Cond.methodLink RL 18 yX9_end ∈ lw_tbl := tb_3 _ (List.mem_of_getElem? (i := 2) (by decide +kernel))
set_option maxRecDepth 20000 in
theorem t_454 : Cond.instanceMethod yX9_end ∈ lw_tbl := tb_3 _ (List.mem_of_getElem? (i := 3) (by decide +kernel))
set_option maxRecDepth 20000 in
theorem t_455 : Cond.selects RX9 yX9_end yX9_end ∈ lw_tbl := tb_3 _ (List.mem_of_getElem? (i := 4) (by decide +kernel))
set_option maxRecDepth 20000 in
theorem t_456 : Cond.methodLink RL 22 yX10_end ∈ lw_tbl := tb_6 _ (List.mem_of_getElem? (i := 74) (by decide +kernel))
set_option maxRecDepth 20000 in
theorem t_457 : Cond.instanceMethod yX10_end ∈ lw_tbl := tb_6 _ (List.mem_of_getElem? (i := 75) (by decide +kernel))
set_option maxRecDepth 20000 in
theorem t_458 : Cond.selects RX10 yX10_end yX10_end ∈ lw_tbl := tb_6 _ (List.mem_of_getElem? (i := 76) (by decide +kernel))
set_option maxRecDepth 20000 in
theorem t_459 : Cond.methodLink RL 23 yX9_town ∈ lw_tbl := tb_3 _ (List.mem_of_getElem? (i := 6) (by decide +kernel))
set_option maxRecDepth 20000 in
theorem t_460 : Cond.instanceMethod yX9_town ∈ lw_tbl := tb_3 _ (List.mem_of_getElem? (i := 7) (by decide +kernel))
set_option maxRecDepth 20000 in
theorem t_461 : Cond.selects RX9 yX9_town yX9_town ∈ lw_tbl := tb_3 _ (List.mem_of_getElem? (i := 8) (by decide +kernel))
set_option maxRecDepth 20000 in
theorem t_462 : Cond.methodLink RL 27 yX10_town ∈ lw_tbl := tb_6 _ (List.mem_of_getElem? (i := 82) (by decide +kernel))
set_option maxRecDepth 20000 in
theorem t_463 : Cond.instanceMethod yX10_town ∈ lw_tbl := tb_6 _ (List.mem_of_getElem? (i := 83) (by decide +kernel))
set_option maxRecDepth 20000 in
theorem t_464 : Cond.selects RX10 yX10_town yX10_town ∈ lw_tbl := tb_6 _ (List.mem_of_getElem? (i := 84) (by decide +kernel))
set_option maxRecDepth 20000 in
theorem t_465 : Cond.methodLink RL 28 yX9_fault ∈ lw_tbl := tb_3 _ (List.mem_of_getElem? (i := 176) (by decide +kernel))
set_option maxRecDepth 20000 in
theorem t_466 : Cond.instanceMethod yX9_fault ∈ lw_tbl := tb_3 _ (List.mem_of_getElem? (i := 177) (by decide +kernel))
set_option maxRecDepth 20000 in
theorem t_467 : Cond.selects RX9 yX9_fault yX9_fault ∈ lw_tbl := tb_3 _ (List.mem_of_getElem? (i := 178) (by decide +kernel))
set_option maxRecDepth 20000 in
theorem t_468 : Cond.methodLink RL 31 yX10_fault ∈ lw_tbl := tb_6 _ (List.mem_of_getElem? (i := 78) (by decide +kernel))
set_option maxRecDepth 20000 in
theorem t_469 : Cond.instanceMethod yX10_fault ∈ lw_tbl := tb_6 _ (List.mem_of_getElem? (i := 79) (by decide +kernel))
set_option maxRecDepth 20000 in
theorem t_470 : Cond.selects RX10 yX10_fault yX10_fault ∈ lw_tbl := tb_6 _ (List.mem_of_getElem? (i := 80) (by decide +kernel))
set_option maxRecDepth 20000 in
theorem t_471 : Cond.methodLink RL 32 yX9_days ∈ lw_tbl := tb_3 _ (List.mem_of_getElem? (i := 180) (by decide +kernel))
set_option maxRecDepth 20000 in
theorem t_472 : Cond.instanceMethod yX9_days ∈ lw_tbl := tb_3 _ (List.mem_of_getElem? (i := 181) (by decide +kernel))
set_option maxRecDepth 20000 in
theorem t_473 : Cond.selects RX9 yX9_days yX9_days ∈ lw_tbl := tb_3 _ (List.mem_of_getElem? (i := 182) (by decide +kernel))
set_option maxRecDepth 20000 in
theorem t_474 : Cond.methodLink RL 35 yX10_days ∈ lw_tbl := tb_6 _ (List.mem_of_getElem? (i := 208) (by decide +kernel))
set_option maxRecDepth 20000 in
theorem t_475 : Cond.instanceMethod yX10_days ∈ lw_tbl := tb_6 _ (List.mem_of_getElem? (i := 209) (by decide +kernel))
set_option maxRecDepth 20000 in
theorem t_476 : Cond.selects RX10 yX10_days yX10_days ∈ lw_tbl := tb_6 _ (List.mem_of_getElem? (i := 210) (by decide +kernel))
set_option maxRecDepth 20000 in
theorem t_477 : Cond.methodLink RL 36 yX9_bars ∈ lw_tbl := tb_3 _ (List.mem_of_getElem? (i := 184) (by decide +kernel))
set_option maxRecDepth 20000 in
theorem t_478 : Cond.instanceMethod yX9_bars ∈ lw_tbl := tb_3 _ (List.mem_of_getElem? (i := 185) (by decide +kernel))
set_option maxRecDepth 20000 in
theorem t_479 : Cond.selects RX9 yX9_bars yX9_bars ∈ lw_tbl := tb_3 _ (List.mem_of_getElem? (i := 186) (by decide +kernel))
set_option maxRecDepth 20000 in
theorem t_480 : Cond.methodLink RL 40 yX10_bars ∈ lw_tbl := tb_6 _ (List.mem_of_getElem? (i := 217) (by decide +kernel))
set_option maxRecDepth 20000 in
theorem t_481 : Cond.instanceMethod yX10_bars ∈ lw_tbl := tb_6 _ (List.mem_of_getElem? (i := 218) (by decide +kernel))
set_option maxRecDepth 20000 in
theorem t_482 : Cond.selects RX10 yX10_bars yX10_bars ∈ lw_tbl := tb_6 _ (List.mem_of_getElem? (i := 219) (by decide +kernel))
set_option maxRecDepth 20000 in
theorem t_483 : Cond.methodLink RL 41 yX9_does ∈ lw_tbl := tb_3 _ (List.mem_of_getElem? (i := 230) (by decide +kernel))
set_option maxRecDepth 20000 in
theorem t_484 : Cond.instanceMethod yX9_does ∈ lw_tbl := tb_3 _ (List.mem_of_getElem? (i := 231) (by decide +kernel))
set_option maxRecDepth 20000 in
theorem t_485 : Cond.selects RX9 yX9_does yX9_does ∈ lw_tbl := tb_3 _ (List.mem_of_getElem? (i := 232) (by decide +kernel))
set_option maxRecDepth 20000 in
theorem t_486 : Cond.methodLink RL 44 yX10_does ∈ lw_tbl := tb_7 _ (List.mem_of_getElem? (i := 23) (by decide +kernel))
set_option maxRecDepth 20000 in
theorem t_487 : Cond.instanceMethod yX10_does ∈ lw_tbl := tb_7 _ (List.mem_of_getElem? (i := 24) (by decide +kernel))
set_option maxRecDepth 20000 in
theorem t_488 : Cond.selects RX10 yX10_does yX10_does ∈ lw_tbl := tb_7 _ (List.mem_of_getElem? (i := 25) (by decide +kernel))
set_option maxRecDepth 20000 in
theorem t_489 : Cond.methodLink RL 45 yX9_meet ∈ lw_tbl := tb_4 _ (List.mem_of_getElem? (i := 56) (by decide +kernel))
set_option maxRecDepth 20000 in
theorem t_490 : Cond.instanceMethod yX9_meet ∈ lw_tbl := tb_4 _ (List.mem_of_getElem? (i := 57) (by decide +kernel))
set_option maxRecDepth 20000 in
theorem t_491 : Cond.selects RX9 yX9_meet yX9_meet ∈ lw_tbl := tb_4 _ (List.mem_of_getElem? (i := 58) (by decide +kernel))
set_option maxRecDepth 20000 in
theorem t_492 : Cond.methodLink RL 49 yX10_meet ∈ lw_tbl := tb_7 _ (List.mem_of_getElem? (i := 77) (by decide +kernel))
set_option maxRecDepth 20000 in
theorem t_493 : Cond.instanceMethod yX10_meet ∈ lw_tbl := tb_7 _ (List.mem_of_getElem? (i := 78) (by decide +kernel))
set_option maxRecDepth 20000 in
theorem t_494 : Cond.selects RX10 yX10_meet yX10_meet ∈ lw_tbl := tb_7 _ (List.mem_of_getElem? (i := 79) (by decide +kernel))
set_option maxRecDepth 20000 in
theorem t_495 : Cond.methodLink RL 50 yX9_done ∈ lw_tbl := tb_4 _ (List.mem_of_getElem? (i := 64) (by decide +kernel))
set_option maxRecDepth 20000 in
theorem t_496 : Cond.instanceMethod yX9_done ∈ lw_tbl := tb_4 _ (List.mem_of_getElem? (i := 65) (by decide +kernel))
set_option maxRecDepth 20000 in
theorem t_497 : Cond.selects RX9 yX9_done yX9_done ∈ lw_tbl := tb_4 _ (List.mem_of_getElem? (i := 66) (by decide +kernel))
set_option maxRecDepth 20000 in
theorem t_498 : Cond.methodLink RL 53 yX10_done ∈ lw_tbl := tb_7 _ (List.mem_of_getElem? (i := 81) (by decide +kernel))
set_option maxRecDepth 20000 in
theorem t_499 : Cond.instanceMethod yX10_done ∈ lw_tbl := tb_7 _ (List.mem_of_getElem? (i := 82) (by decide +kernel))
set_option maxRecDepth 20000 in
theorem t_500 : Cond.selects RX10 yX10_done yX10_done ∈ lw_tbl := tb_7 _ (List.mem_of_getElem? (i := 83) (by decide +kernel))
set_option maxRecDepth 20000 in
theorem t_501 : Cond.methodLink RL 54 yX9_known ∈ lw_tbl := tb_4 _ (List.mem_of_getElem? (i := 78) (by decide +kernel))
set_option maxRecDepth 20000 in
theorem t_502 : Cond.instanceMethod yX9_known ∈ lw_tbl := tb_4 _ (List.mem_of_getElem? (i := 79) (by decide +kernel))
set_option maxRecDepth 20000 in
theorem t_503 : Cond.selects RX9 yX9_known yX9_known ∈ lw_tbl := tb_4 _ (List.mem_of_getElem? (i := 80) (by decide +kernel))
set_option maxRecDepth 20000 in
theorem t_504 : Cond.methodLink RL 57 yX10_known ∈ lw_tbl := tb_7 _ (List.mem_of_getElem? (i := 19) (by decide +kernel))
set_option maxRecDepth 20000 in
theorem t_505 : Cond.instanceMethod yX10_known ∈ lw_tbl := tb_7 _ (List.mem_of_getElem? (i := 20) (by decide +kernel))
set_option maxRecDepth 20000 in
theorem t_506 : Cond.selects RX10 yX10_known yX10_known ∈ lw_tbl := tb_7 _ (List.mem_of_getElem? (i := 21) (by decide +kernel))
set_option maxRecDepth 20000 in
theorem t_507 : Cond.methodLink RL 58 yX9_debts ∈ lw_tbl := tb_4 _ (List.mem_of_getElem? (i := 83) (by decide +kernel))
set_option maxRecDepth 20000 in
theorem t_508 : Cond.instanceMethod yX9_debts ∈ lw_tbl := tb_4 _ (List.mem_of_getElem? (i := 84) (by decide +kernel))
set_option maxRecDepth 20000 in
theorem t_509 : Cond.selects RX9 yX9_debts yX9_debts ∈ lw_tbl := tb_4 _ (List.mem_of_getElem? (i := 85) (by decide +kernel))
set_option maxRecDepth 20000 in
theorem t_510 : Cond.methodLink RL 61 yX10_debts ∈ lw_tbl := tb_7 _ (List.mem_of_getElem? (i := 92) (by decide +kernel))
set_option maxRecDepth 20000 in
theorem t_511 : Cond.instanceMethod yX10_debts ∈ lw_tbl := tb_7 _ (List.mem_of_getElem? (i := 93) (by decide +kernel))
set_option maxRecDepth 20000 in
theorem t_512 : Cond.selects RX10 yX10_debts yX10_debts ∈ lw_tbl := tb_7 _ (List.mem_of_getElem? (i := 94) (by decide +kernel))
set_option maxRecDepth 20000 in
theorem t_513 : Cond.methodLink RL 62 yX9_debt ∈ lw_tbl := tb_4 _ (List.mem_of_getElem? (i := 88) (by decide +kernel))
set_option maxRecDepth 20000 in
theorem t_514 : Cond.instanceMethod yX9_debt ∈ lw_tbl := tb_4 _ (List.mem_of_getElem? (i := 89) (by decide +kernel))
set_option maxRecDepth 20000 in
theorem t_515 : Cond.selects RX9 yX9_debt yX9_debt ∈ lw_tbl := tb_4 _ (List.mem_of_getElem? (i := 90) (by decide +kernel))
set_option maxRecDepth 20000 in
theorem t_516 : Cond.methodLink RL 65 yX10_debt ∈ lw_tbl := tb_7 _ (List.mem_of_getElem? (i := 96) (by decide +kernel))
set_option maxRecDepth 20000 in
theorem t_517 : Cond.instanceMethod yX10_debt ∈ lw_tbl := tb_7 _ (List.mem_of_getElem? (i := 97) (by decide +kernel))
set_option maxRecDepth 20000 in
theorem t_518 : Cond.selects RX10 yX10_debt yX10_debt ∈ lw_tbl := tb_7 _ (List.mem_of_getElem? (i := 98) (by decide +kernel))
set_option maxRecDepth 20000 in
theorem t_519 : Cond.methodLink RL 66 yX9_slights ∈ lw_tbl := tb_4 _ (List.mem_of_getElem? (i := 96) (by decide +kernel))
set_option maxRecDepth 20000 in
theorem t_520 : Cond.instanceMethod yX9_slights ∈ lw_tbl := tb_4 _ (List.mem_of_getElem? (i := 97) (by decide +kernel))
set_option maxRecDepth 20000 in
theorem t_521 : Cond.selects RX9 yX9_slights yX9_slights ∈ lw_tbl := tb_4 _ (List.mem_of_getElem? (i := 98) (by decide +kernel))
set_option maxRecDepth 20000 in
theorem t_522 : Cond.methodLink RL 69 yX10_slights ∈ lw_tbl := tb_7 _ (List.mem_of_getElem? (i := 104) (by decide +kernel))
set_option maxRecDepth 20000 in
theorem t_523 : Cond.instanceMethod yX10_slights ∈ lw_tbl := tb_7 _ (List.mem_of_getElem? (i := 105) (by decide +kernel))
set_option maxRecDepth 20000 in
theorem t_524 : Cond.selects RX10 yX10_slights yX10_slights ∈ lw_tbl := tb_7 _ (List.mem_of_getElem? (i := 106) (by decide +kernel))
set_option maxRecDepth 20000 in
theorem t_525 : Cond.methodLink RL 70 yX9_first ∈ lw_tbl := tb_4 _ (List.mem_of_getElem? (i := 104) (by decide +kernel))
set_option maxRecDepth 20000 in
theorem t_526 : Cond.instanceMethod yX9_first ∈ lw_tbl := tb_4 _ (List.mem_of_getElem? (i := 105) (by decide +kernel))
set_option maxRecDepth 20000 in
theorem t_527 : Cond.selects RX9 yX9_first yX9_first ∈ lw_tbl := tb_4 _ (List.mem_of_getElem? (i := 106) (by decide +kernel))
set_option maxRecDepth 20000 in
theorem t_528 : Cond.methodLink RL 73 yX10_first ∈ lw_tbl := tb_7 _ (List.mem_of_getElem? (i := 112) (by decide +kernel))
set_option maxRecDepth 20000 in
theorem t_529 : Cond.instanceMethod yX10_first ∈ lw_tbl := tb_7 _ (List.mem_of_getElem? (i := 113) (by decide +kernel))
set_option maxRecDepth 20000 in
theorem t_530 : Cond.selects RX10 yX10_first yX10_first ∈ lw_tbl := tb_7 _ (List.mem_of_getElem? (i := 114) (by decide +kernel))
set_option maxRecDepth 20000 in
theorem t_531 : Cond.methodLink RL 74 yX9_owes ∈ lw_tbl := tb_4 _ (List.mem_of_getElem? (i := 108) (by decide +kernel))
set_option maxRecDepth 20000 in
theorem t_532 : Cond.instanceMethod yX9_owes ∈ lw_tbl := tb_4 _ (List.mem_of_getElem? (i := 109) (by decide +kernel))
set_option maxRecDepth 20000 in
theorem t_533 : Cond.selects RX9 yX9_owes yX9_owes ∈ lw_tbl := tb_4 _ (List.mem_of_getElem? (i := 110) (by decide +kernel))
set_option maxRecDepth 20000 in
theorem t_534 : Cond.methodLink RL 77 yX10_owes ∈ lw_tbl := tb_7 _ (List.mem_of_getElem? (i := 116) (by decide +kernel))
set_option maxRecDepth 20000 in
theorem t_535 : Cond.instanceMethod yX10_owes ∈ lw_tbl := tb_7 _ (List.mem_of_getElem? (i := 117) (by decide +kernel))
set_option maxRecDepth 20000 in
theorem t_536 : Cond.selects RX10 yX10_owes yX10_owes ∈ lw_tbl := tb_7 _ (List.mem_of_getElem? (i := 118) (by decide +kernel))
set_option maxRecDepth 20000 in
theorem t_537 : Cond.methodLink RL 78 yX9_worth ∈ lw_tbl := tb_4 _ (List.mem_of_getElem? (i := 116) (by decide +kernel))
set_option maxRecDepth 20000 in
theorem t_538 : Cond.instanceMethod yX9_worth ∈ lw_tbl := tb_4 _ (List.mem_of_getElem? (i := 117) (by decide +kernel))
set_option maxRecDepth 20000 in
theorem t_539 : Cond.selects RX9 yX9_worth yX9_worth ∈ lw_tbl := tb_4 _ (List.mem_of_getElem? (i := 118) (by decide +kernel))
set_option maxRecDepth 20000 in
theorem t_540 : Cond.methodLink RL 81 yX10_worth ∈ lw_tbl := tb_7 _ (List.mem_of_getElem? (i := 120) (by decide +kernel))
set_option maxRecDepth 20000 in
theorem t_541 : Cond.instanceMethod yX10_worth ∈ lw_tbl := tb_7 _ (List.mem_of_getElem? (i := 121) (by decide +kernel))
set_option maxRecDepth 20000 in
theorem t_542 : Cond.selects RX10 yX10_worth yX10_worth ∈ lw_tbl := tb_7 _ (List.mem_of_getElem? (i := 122) (by decide +kernel))
set_option maxRecDepth 20000 in
theorem t_543 : Cond.methodLink RL 82 yX9_round ∈ lw_tbl := tb_4 _ (List.mem_of_getElem? (i := 193) (by decide +kernel))
set_option maxRecDepth 20000 in
theorem t_544 : Cond.instanceMethod yX9_round ∈ lw_tbl := tb_4 _ (List.mem_of_getElem? (i := 194) (by decide +kernel))
set_option maxRecDepth 20000 in
theorem t_545 : Cond.selects RX9 yX9_round yX9_round ∈ lw_tbl := tb_4 _ (List.mem_of_getElem? (i := 195) (by decide +kernel))
set_option maxRecDepth 20000 in
theorem t_546 : Cond.methodLink RL 85 yX10_round ∈ lw_tbl := tb_7 _ (List.mem_of_getElem? (i := 163) (by decide +kernel))
set_option maxRecDepth 20000 in
theorem t_547 : Cond.instanceMethod yX10_round ∈ lw_tbl := tb_7 _ (List.mem_of_getElem? (i := 164) (by decide +kernel))
set_option maxRecDepth 20000 in
theorem t_548 : Cond.selects RX10 yX10_round yX10_round ∈ lw_tbl := tb_7 _ (List.mem_of_getElem? (i := 165) (by decide +kernel))
set_option maxRecDepth 20000 in
theorem t_549 : Cond.methodLink RL 86 yX9_over ∈ lw_tbl := tb_4 _ (List.mem_of_getElem? (i := 197) (by decide +kernel))
set_option maxRecDepth 20000 in
theorem t_550 : Cond.instanceMethod yX9_over ∈ lw_tbl := tb_4 _ (List.mem_of_getElem? (i := 198) (by decide +kernel))
set_option maxRecDepth 20000 in
theorem t_551 : Cond.selects RX9 yX9_over yX9_over ∈ lw_tbl := tb_4 _ (List.mem_of_getElem? (i := 199) (by decide +kernel))
set_option maxRecDepth 20000 in
theorem t_552 : Cond.methodLink RL 89 yX10_over ∈ lw_tbl := tb_7 _ (List.mem_of_getElem? (i := 159) (by decide +kernel))
set_option maxRecDepth 20000 in
theorem t_553 : Cond.instanceMethod yX10_over ∈ lw_tbl := tb_7 _ (List.mem_of_getElem? (i := 160) (by decide +kernel))
set_option maxRecDepth 20000 in
theorem t_554 : Cond.selects RX10 yX10_over yX10_over ∈ lw_tbl := tb_7 _ (List.mem_of_getElem? (i := 161) (by decide +kernel))
set_option maxRecDepth 20000 in
theorem t_555 : Cond.methodLink RL 90 yX9_may ∈ lw_tbl := tb_4 _ (List.mem_of_getElem? (i := 201) (by decide +kernel))
set_option maxRecDepth 20000 in
theorem t_556 : Cond.instanceMethod yX9_may ∈ lw_tbl := tb_4 _ (List.mem_of_getElem? (i := 202) (by decide +kernel))
set_option maxRecDepth 20000 in
theorem t_557 : Cond.selects RX9 yX9_may yX9_may ∈ lw_tbl := tb_4 _ (List.mem_of_getElem? (i := 203) (by decide +kernel))
set_option maxRecDepth 20000 in
theorem t_558 : Cond.methodLink RL 93 yX10_may ∈ lw_tbl := tb_7 _ (List.mem_of_getElem? (i := 171) (by decide +kernel))
set_option maxRecDepth 20000 in
theorem t_559 : Cond.instanceMethod yX10_may ∈ lw_tbl := tb_7 _ (List.mem_of_getElem? (i := 172) (by decide +kernel))
set_option maxRecDepth 20000 in
theorem t_560 : Cond.selects RX10 yX10_may yX10_may ∈ lw_tbl := tb_7 _ (List.mem_of_getElem? (i := 173) (by decide +kernel))
set_option maxRecDepth 20000 in
theorem t_561 : Cond.methodLink RL 94 yX9_fewest ∈ lw_tbl := tb_4 _ (List.mem_of_getElem? (i := 211) (by decide +kernel))
set_option maxRecDepth 20000 in
theorem t_562 : Cond.instanceMethod yX9_fewest ∈ lw_tbl := tb_4 _ (List.mem_of_getElem? (i := 212) (by decide +kernel))
set_option maxRecDepth 20000 in
theorem t_563 : Cond.selects RX9 yX9_fewest yX9_fewest ∈ lw_tbl := tb_4 _ (List.mem_of_getElem? (i := 213) (by decide +kernel))
set_option maxRecDepth 20000 in
theorem t_564 : Cond.methodLink RL 97 yX10_fewest ∈ lw_tbl := tb_7 _ (List.mem_of_getElem? (i := 175) (by decide +kernel))
set_option maxRecDepth 20000 in
theorem t_565 : Cond.instanceMethod yX10_fewest ∈ lw_tbl := tb_7 _ (List.mem_of_getElem? (i := 176) (by decide +kernel))
set_option maxRecDepth 20000 in
theorem t_566 : Cond.selects RX10 yX10_fewest yX10_fewest ∈ lw_tbl := tb_7 _ (List.mem_of_getElem? (i := 177) (by decide +kernel))
set_option maxRecDepth 20000 in
theorem t_567 : Cond.methodLink RL 98 yX9_lost ∈ lw_tbl := tb_4 _ (List.mem_of_getElem? (i := 232) (by decide +kernel))
set_option maxRecDepth 20000 in
theorem t_568 : Cond.instanceMethod yX9_lost ∈ lw_tbl := tb_4 _ (List.mem_of_getElem? (i := 233) (by decide +kernel))
set_option maxRecDepth 20000 in
theorem t_569 : Cond.selects RX9 yX9_lost yX9_lost ∈ lw_tbl := tb_4 _ (List.mem_of_getElem? (i := 234) (by decide +kernel))
set_option maxRecDepth 20000 in
theorem t_570 : Cond.methodLink RL 101 yX10_lost ∈ lw_tbl := tb_7 _ (List.mem_of_getElem? (i := 187) (by decide +kernel))
set_option maxRecDepth 20000 in
theorem t_571 : Cond.instanceMethod yX10_lost ∈ lw_tbl := tb_7 _ (List.mem_of_getElem? (i := 188) (by decide +kernel))
set_option maxRecDepth 20000 in
theorem t_572 : Cond.selects RX10 yX10_lost yX10_lost ∈ lw_tbl := tb_7 _ (List.mem_of_getElem? (i := 189) (by decide +kernel))
set_option maxRecDepth 20000 in
theorem t_573 : Cond.methodLink RL 102 yX9_soon ∈ lw_tbl := tb_5 _ (List.mem_of_getElem? (i := 4) (by decide +kernel))
set_option maxRecDepth 20000 in
theorem t_574 : Cond.instanceMethod yX9_soon ∈ lw_tbl := tb_5 _ (List.mem_of_getElem? (i := 5) (by decide +kernel))
set_option maxRecDepth 20000 in
theorem t_575 : Cond.selects RX9 yX9_soon yX9_soon ∈ lw_tbl := tb_5 _ (List.mem_of_getElem? (i := 6) (by decide +kernel))
set_option maxRecDepth 20000 in
theorem t_576 : Cond.methodLink RL 105 yX10_soon ∈ lw_tbl := tb_7 _ (List.mem_of_getElem? (i := 191) (by decide +kernel))
set_option maxRecDepth 20000 in
theorem t_577 : Cond.instanceMethod yX10_soon ∈ lw_tbl := tb_7 _ (List.mem_of_getElem? (i := 192) (by decide +kernel))
set_option maxRecDepth 20000 in
theorem t_578 : Cond.selects RX10 yX10_soon yX10_soon ∈ lw_tbl := tb_7 _ (List.mem_of_getElem? (i := 193) (by decide +kernel))
set_option maxRecDepth 20000 in
theorem t_579 : Cond.methodLink RL 106 yX9_path ∈ lw_tbl := tb_5 _ (List.mem_of_getElem? (i := 34) (by decide +kernel))
set_option maxRecDepth 20000 in
theorem t_580 : Cond.instanceMethod yX9_path ∈ lw_tbl := tb_5 _ (List.mem_of_getElem? (i := 35) (by decide +kernel))
set_option maxRecDepth 20000 in
theorem t_581 : Cond.selects RX9 yX9_path yX9_path ∈ lw_tbl := tb_5 _ (List.mem_of_getElem? (i := 36) (by decide +kernel))
set_option maxRecDepth 20000 in
theorem t_582 : Cond.methodLink RL 109 yX10_path ∈ lw_tbl := tb_7 _ (List.mem_of_getElem? (i := 203) (by decide +kernel))
set_option maxRecDepth 20000 in
theorem t_583 : Cond.instanceMethod yX10_path ∈ lw_tbl := tb_7 _ (List.mem_of_getElem? (i := 204) (by decide +kernel))
set_option maxRecDepth 20000 in
theorem t_584 : Cond.selects RX10 yX10_path yX10_path ∈ lw_tbl := tb_7 _ (List.mem_of_getElem? (i := 205) (by decide +kernel))
set_option maxRecDepth 20000 in
theorem t_585 : Cond.methodLink RL 110 yX9_reach ∈ lw_tbl := tb_5 _ (List.mem_of_getElem? (i := 38) (by decide +kernel))
set_option maxRecDepth 20000 in
theorem t_586 : Cond.instanceMethod yX9_reach ∈ lw_tbl := tb_5 _ (List.mem_of_getElem? (i := 39) (by decide +kernel))
set_option maxRecDepth 20000 in
theorem t_587 : Cond.selects RX9 yX9_reach yX9_reach ∈ lw_tbl := tb_5 _ (List.mem_of_getElem? (i := 40) (by decide +kernel))
set_option maxRecDepth 20000 in
theorem t_588 : Cond.methodLink RL 113 yX10_reach ∈ lw_tbl := tb_7 _ (List.mem_of_getElem? (i := 207) (by decide +kernel))
set_option maxRecDepth 20000 in
theorem t_589 : Cond.instanceMethod yX10_reach ∈ lw_tbl := tb_7 _ (List.mem_of_getElem? (i := 208) (by decide +kernel))
set_option maxRecDepth 20000 in
theorem t_590 : Cond.selects RX10 yX10_reach yX10_reach ∈ lw_tbl := tb_7 _ (List.mem_of_getElem? (i := 209) (by decide +kernel))
set_option maxRecDepth 20000 in
theorem t_591 : Cond.methodLink RL 114 yX9_drop ∈ lw_tbl := tb_5 _ (List.mem_of_getElem? (i := 46) (by decide +kernel))
set_option maxRecDepth 20000 in
theorem t_592 : Cond.instanceMethod yX9_drop ∈ lw_tbl := tb_5 _ (List.mem_of_getElem? (i := 47) (by decide +kernel))
set_option maxRecDepth 20000 in
theorem t_593 : Cond.selects RX9 yX9_drop yX9_drop ∈ lw_tbl := tb_5 _ (List.mem_of_getElem? (i := 48) (by decide +kernel))
set_option maxRecDepth 20000 in
theorem t_594 : Cond.methodLink RL 117 yX10_drop ∈ lw_tbl := tb_7 _ (List.mem_of_getElem? (i := 215) (by decide +kernel))
set_option maxRecDepth 20000 in
theorem t_595 : Cond.instanceMethod yX10_drop ∈ lw_tbl := tb_7 _ (List.mem_of_getElem? (i := 216) (by decide +kernel))
set_option maxRecDepth 20000 in
theorem t_596 : Cond.selects RX10 yX10_drop yX10_drop ∈ lw_tbl := tb_7 _ (List.mem_of_getElem? (i := 217) (by decide +kernel))
set_option maxRecDepth 20000 in
theorem t_597 : Cond.methodLink RL 118 yX9_tie ∈ lw_tbl := tb_5 _ (List.mem_of_getElem? (i := 59) (by decide +kernel))
set_option maxRecDepth 20000 in
theorem t_598 : Cond.instanceMethod yX9_tie ∈ lw_tbl := tb_5 _ (List.mem_of_getElem? (i := 60) (by decide +kernel))
set_option maxRecDepth 20000 in
theorem t_599 : Cond.selects RX9 yX9_tie yX9_tie ∈ lw_tbl := tb_5 _ (List.mem_of_getElem? (i := 61) (by decide +kernel))
set_option maxRecDepth 20000 in
theorem t_600 : Cond.methodLink RL 121 yX10_tie ∈ lw_tbl := tb_7 _ (List.mem_of_getElem? (i := 219) (by decide +kernel))
set_option maxRecDepth 20000 in
theorem t_601 : Cond.instanceMethod yX10_tie ∈ lw_tbl := tb_7 _ (List.mem_of_getElem? (i := 220) (by decide +kernel))
set_option maxRecDepth 20000 in
theorem t_602 : Cond.selects RX10 yX10_tie yX10_tie ∈ lw_tbl := tb_7 _ (List.mem_of_getElem? (i := 221) (by decide +kernel))
set_option maxRecDepth 20000 in
theorem t_603 : Cond.methodLink RL 122 yX9_rings ∈ lw_tbl := tb_5 _ (List.mem_of_getElem? (i := 64) (by decide +kernel))
set_option maxRecDepth 20000 in
theorem t_604 : Cond.instanceMethod yX9_rings ∈ lw_tbl := tb_5 _ (List.mem_of_getElem? (i := 65) (by decide +kernel))
set_option maxRecDepth 20000 in
theorem t_605 : Cond.selects RX9 yX9_rings yX9_rings ∈ lw_tbl := tb_5 _ (List.mem_of_getElem? (i := 66) (by decide +kernel))
set_option maxRecDepth 20000 in
theorem t_606 : Cond.methodLink RL 125 yX10_rings ∈ lw_tbl := tb_7 _ (List.mem_of_getElem? (i := 239) (by decide +kernel))
set_option maxRecDepth 20000 in
theorem t_607 : Cond.instanceMethod yX10_rings ∈ lw_tbl := tb_8 _ (List.mem_of_getElem? (i := 0) (by decide +kernel))
set_option maxRecDepth 20000 in
theorem t_608 : Cond.selects RX10 yX10_rings yX10_rings ∈ lw_tbl := tb_8 _ (List.mem_of_getElem? (i := 1) (by decide +kernel))
set_option maxRecDepth 20000 in
theorem t_609 : Cond.methodLink RL 126 yX9_ring ∈ lw_tbl := tb_5 _ (List.mem_of_getElem? (i := 77) (by decide +kernel))
set_option maxRecDepth 20000 in
theorem t_610 : Cond.instanceMethod yX9_ring ∈ lw_tbl := tb_5 _ (List.mem_of_getElem? (i := 78) (by decide +kernel))
set_option maxRecDepth 20000 in
theorem t_611 : Cond.selects RX9 yX9_ring yX9_ring ∈ lw_tbl := tb_5 _ (List.mem_of_getElem? (i := 79) (by decide +kernel))
set_option maxRecDepth 20000 in
theorem t_612 : Cond.methodLink RL 129 yX10_ring ∈ lw_tbl := tb_7 _ (List.mem_of_getElem? (i := 223) (by decide +kernel))
set_option maxRecDepth 20000 in
theorem t_613 : Cond.instanceMethod yX10_ring ∈ lw_tbl := tb_7 _ (List.mem_of_getElem? (i := 224) (by decide +kernel))
set_option maxRecDepth 20000 in
theorem t_614 : Cond.selects RX10 yX10_ring yX10_ring ∈ lw_tbl := tb_7 _ (List.mem_of_getElem? (i := 225) (by decide +kernel))
set_option maxRecDepth 20000 in
theorem t_615 : Cond.methodLink RL 130 yX9_house ∈ lw_tbl := tb_5 _ (List.mem_of_getElem? (i := 81) (by decide +kernel))
set_option maxRecDepth 20000 in
theorem t_616 : Cond.instanceMethod yX9_house ∈ lw_tbl := tb_5 _ (List.mem_of_getElem? (i := 82) (by decide +kernel))
set_option maxRecDepth 20000 in
theorem t_617 : Cond.selects RX9 yX9_house yX9_house ∈ lw_tbl := tb_5 _ (List.mem_of_getElem? (i := 83) (by decide +kernel))
set_option maxRecDepth 20000 in
theorem t_618 : Cond.methodLink RL 133 yX10_house ∈ lw_tbl := tb_8 _ (List.mem_of_getElem? (i := 3) (by decide +kernel))
set_option maxRecDepth 20000 in
theorem t_619 : Cond.instanceMethod yX10_house ∈ lw_tbl := tb_8 _ (List.mem_of_getElem? (i := 4) (by decide +kernel))
set_option maxRecDepth 20000 in
theorem t_620 : Cond.selects RX10 yX10_house yX10_house ∈ lw_tbl := tb_8 _ (List.mem_of_getElem? (i := 5) (by decide +kernel))
set_option maxRecDepth 20000 in
theorem t_621 : Cond.methodLink RL 134 yX9_beside ∈ lw_tbl := tb_5 _ (List.mem_of_getElem? (i := 94) (by decide +kernel))
set_option maxRecDepth 20000 in
theorem t_622 : Cond.instanceMethod yX9_beside ∈ lw_tbl := tb_5 _ (List.mem_of_getElem? (i := 95) (by decide +kernel))
set_option maxRecDepth 20000 in
theorem t_623 : Cond.selects RX9 yX9_beside yX9_beside ∈ lw_tbl := tb_5 _ (List.mem_of_getElem? (i := 96) (by decide +kernel))
set_option maxRecDepth 20000 in
theorem t_624 : Cond.methodLink RL 137 yX10_beside ∈ lw_tbl := tb_8 _ (List.mem_of_getElem? (i := 9) (by decide +kernel))
set_option maxRecDepth 20000 in
theorem t_625 : Cond.instanceMethod yX10_beside ∈ lw_tbl := tb_8 _ (List.mem_of_getElem? (i := 10) (by decide +kernel))
set_option maxRecDepth 20000 in
theorem t_626 : Cond.selects RX10 yX10_beside yX10_beside ∈ lw_tbl := tb_8 _ (List.mem_of_getElem? (i := 11) (by decide +kernel))
set_option maxRecDepth 20000 in
theorem t_627 : Cond.methodLink RL 138 yX9_count ∈ lw_tbl := tb_5 _ (List.mem_of_getElem? (i := 105) (by decide +kernel))
set_option maxRecDepth 20000 in
theorem t_628 : Cond.instanceMethod yX9_count ∈ lw_tbl := tb_5 _ (List.mem_of_getElem? (i := 106) (by decide +kernel))
set_option maxRecDepth 20000 in
theorem t_629 : Cond.selects RX9 yX9_count yX9_count ∈ lw_tbl := tb_5 _ (List.mem_of_getElem? (i := 107) (by decide +kernel))
set_option maxRecDepth 20000 in
theorem t_630 : Cond.methodLink RL 141 yX10_count ∈ lw_tbl := tb_8 _ (List.mem_of_getElem? (i := 13) (by decide +kernel))
set_option maxRecDepth 20000 in
theorem t_631 : Cond.instanceMethod yX10_count ∈ lw_tbl := tb_8 _ (List.mem_of_getElem? (i := 14) (by decide +kernel))
set_option maxRecDepth 20000 in
theorem t_632 : Cond.selects RX10 yX10_count yX10_count ∈ lw_tbl := tb_8 _ (List.mem_of_getElem? (i := 15) (by decide +kernel))
set_option maxRecDepth 20000 in
theorem t_633 : Cond.methodLink RL 142 yX9_keep ∈ lw_tbl := tb_5 _ (List.mem_of_getElem? (i := 117) (by decide +kernel))
set_option maxRecDepth 20000 in
theorem t_634 : Cond.instanceMethod yX9_keep ∈ lw_tbl := tb_5 _ (List.mem_of_getElem? (i := 118) (by decide +kernel))
set_option maxRecDepth 20000 in
theorem t_635 : Cond.selects RX9 yX9_keep yX9_keep ∈ lw_tbl := tb_5 _ (List.mem_of_getElem? (i := 119) (by decide +kernel))
set_option maxRecDepth 20000 in
theorem t_636 : Cond.methodLink RL 145 yX10_keep ∈ lw_tbl := tb_6 _ (List.mem_of_getElem? (i := 58) (by decide +kernel))
set_option maxRecDepth 20000 in
theorem t_637 : Cond.instanceMethod yX10_keep ∈ lw_tbl := tb_6 _ (List.mem_of_getElem? (i := 59) (by decide +kernel))
set_option maxRecDepth 20000 in
theorem t_638 : Cond.selects RX10 yX10_keep yX10_keep ∈ lw_tbl := tb_6 _ (List.mem_of_getElem? (i := 60) (by decide +kernel))
set_option maxRecDepth 20000 in
theorem t_639 : Cond.methodLink RL 146 yX9_back ∈ lw_tbl := tb_5 _ (List.mem_of_getElem? (i := 135) (by decide +kernel))
set_option maxRecDepth 20000 in
theorem t_640 : Cond.instanceMethod yX9_back ∈ lw_tbl := tb_5 _ (List.mem_of_getElem? (i := 136) (by decide +kernel))
set_option maxRecDepth 20000 in
theorem t_641 : Cond.selects RX9 yX9_back yX9_back ∈ lw_tbl := tb_5 _ (List.mem_of_getElem? (i := 137) (by decide +kernel))
set_option maxRecDepth 20000 in
theorem t_642 : Cond.methodLink RL 149 yX10_back ∈ lw_tbl := tb_6 _ (List.mem_of_getElem? (i := 66) (by decide +kernel))
set_option maxRecDepth 20000 in
theorem t_643 : Cond.instanceMethod yX10_back ∈ lw_tbl := tb_6 _ (List.mem_of_getElem? (i := 67) (by decide +kernel))
set_option maxRecDepth 20000 in
theorem t_644 : Cond.selects RX10 yX10_back yX10_back ∈ lw_tbl := tb_6 _ (List.mem_of_getElem? (i := 68) (by decide +kernel))
set_option maxRecDepth 20000 in
theorem t_645 : Cond.methodLink RL 150 yX9_row ∈ lw_tbl := tb_5 _ (List.mem_of_getElem? (i := 139) (by decide +kernel))
set_option maxRecDepth 20000 in
theorem t_646 : Cond.instanceMethod yX9_row ∈ lw_tbl := tb_5 _ (List.mem_of_getElem? (i := 140) (by decide +kernel))
set_option maxRecDepth 20000 in
theorem t_647 : Cond.selects RX9 yX9_row yX9_row ∈ lw_tbl := tb_5 _ (List.mem_of_getElem? (i := 141) (by decide +kernel))
set_option maxRecDepth 20000 in
theorem t_648 : Cond.methodLink RL 153 yX10_row ∈ lw_tbl := tb_8 _ (List.mem_of_getElem? (i := 17) (by decide +kernel))
set_option maxRecDepth 20000 in
theorem t_649 : Cond.instanceMethod yX10_row ∈ lw_tbl := tb_8 _ (List.mem_of_getElem? (i := 18) (by decide +kernel))
set_option maxRecDepth 20000 in
theorem t_650 : Cond.selects RX10 yX10_row yX10_row ∈ lw_tbl := tb_8 _ (List.mem_of_getElem? (i := 19) (by decide +kernel))
set_option maxRecDepth 20000 in
theorem t_651 : Cond.constantLong RL 154 (4294967295) ∈ lw_tbl := tb_8 _ (List.mem_of_getElem? (i := 32) (by decide +kernel))
set_option maxRecDepth 20000 in
theorem t_652 : Cond.methodLink RL 156 yX9_write ∈ lw_tbl := tb_5 _ (List.mem_of_getElem? (i := 150) (by decide +kernel))
set_option maxRecDepth 20000 in
theorem t_653 : Cond.instanceMethod yX9_write ∈ lw_tbl := tb_5 _ (List.mem_of_getElem? (i := 151) (by decide +kernel))
set_option maxRecDepth 20000 in
theorem t_654 : Cond.selects RX9 yX9_write yX9_write ∈ lw_tbl := tb_5 _ (List.mem_of_getElem? (i := 152) (by decide +kernel))
set_option maxRecDepth 20000 in
theorem t_655 : Cond.methodLink RL 160 yX10_write ∈ lw_tbl := tb_8 _ (List.mem_of_getElem? (i := 21) (by decide +kernel))
set_option maxRecDepth 20000 in
theorem t_656 : Cond.instanceMethod yX10_write ∈ lw_tbl := tb_8 _ (List.mem_of_getElem? (i := 22) (by decide +kernel))
set_option maxRecDepth 20000 in
theorem t_657 : Cond.selects RX10 yX10_write yX10_write ∈ lw_tbl := tb_8 _ (List.mem_of_getElem? (i := 23) (by decide +kernel))
set_option maxRecDepth 20000 in
theorem t_658 : Cond.methodLink RL 161 yX9_paste ∈ lw_tbl := tb_5 _ (List.mem_of_getElem? (i := 158) (by decide +kernel))
set_option maxRecDepth 20000 in
theorem t_659 : Cond.instanceMethod yX9_paste ∈ lw_tbl := tb_5 _ (List.mem_of_getElem? (i := 159) (by decide +kernel))
set_option maxRecDepth 20000 in
theorem t_660 : Cond.selects RX9 yX9_paste yX9_paste ∈ lw_tbl := tb_5 _ (List.mem_of_getElem? (i := 160) (by decide +kernel))
set_option maxRecDepth 20000 in
theorem t_661 : Cond.methodLink RL 164 yX10_paste ∈ lw_tbl := tb_8 _ (List.mem_of_getElem? (i := 28) (by decide +kernel))
set_option maxRecDepth 20000 in
theorem t_662 : Cond.instanceMethod yX10_paste ∈ lw_tbl := tb_8 _ (List.mem_of_getElem? (i := 29) (by decide +kernel))
set_option maxRecDepth 20000 in
theorem t_663 : Cond.selects RX10 yX10_paste yX10_paste ∈ lw_tbl := tb_8 _ (List.mem_of_getElem? (i := 30) (by decide +kernel))
theorem tA_0 : ∀ w ∈ wA_0, w ∈ lw_tbl := List.forall_mem_cons.mpr ⟨t_0, List.forall_mem_cons.mpr ⟨t_1, List.forall_mem_cons.mpr ⟨t_2, List.forall_mem_cons.mpr ⟨t_3, List.forall_mem_cons.mpr ⟨t_4, List.forall_mem_cons.mpr ⟨t_5, List.forall_mem_cons.mpr ⟨t_6, List.forall_mem_cons.mpr ⟨t_7, List.forall_mem_cons.mpr ⟨t_8, List.forall_mem_cons.mpr ⟨t_9, List.forall_mem_cons.mpr ⟨t_10, List.forall_mem_cons.mpr ⟨t_11, List.forall_mem_cons.mpr ⟨t_12, List.forall_mem_cons.mpr ⟨t_13, List.forall_mem_cons.mpr ⟨t_14, List.forall_mem_cons.mpr ⟨t_15, List.forall_mem_cons.mpr ⟨t_16, List.forall_mem_cons.mpr ⟨t_17, List.forall_mem_cons.mpr ⟨t_18, List.forall_mem_cons.mpr ⟨t_19, List.forall_mem_cons.mpr ⟨t_20, List.forall_mem_cons.mpr ⟨t_21, List.forall_mem_cons.mpr ⟨t_22, List.forall_mem_cons.mpr ⟨t_23, fun _ h => absurd h List.not_mem_nil⟩⟩⟩⟩⟩⟩⟩⟩⟩⟩⟩⟩⟩⟩⟩⟩⟩⟩⟩⟩⟩⟩⟩⟩
theorem tA_1 : ∀ w ∈ wA_1, w ∈ lw_tbl := List.forall_mem_cons.mpr ⟨t_24, List.forall_mem_cons.mpr ⟨t_25, List.forall_mem_cons.mpr ⟨t_26, List.forall_mem_cons.mpr ⟨t_27, List.forall_mem_cons.mpr ⟨t_28, List.forall_mem_cons.mpr ⟨t_29, List.forall_mem_cons.mpr ⟨t_30, List.forall_mem_cons.mpr ⟨t_31, List.forall_mem_cons.mpr ⟨t_32, List.forall_mem_cons.mpr ⟨t_33, List.forall_mem_cons.mpr ⟨t_34, List.forall_mem_cons.mpr ⟨t_35, List.forall_mem_cons.mpr ⟨t_36, List.forall_mem_cons.mpr ⟨t_37, List.forall_mem_cons.mpr ⟨t_38, List.forall_mem_cons.mpr ⟨t_39, List.forall_mem_cons.mpr ⟨t_40, List.forall_mem_cons.mpr ⟨t_41, List.forall_mem_cons.mpr ⟨t_42, List.forall_mem_cons.mpr ⟨t_43, List.forall_mem_cons.mpr ⟨t_44, List.forall_mem_cons.mpr ⟨t_45, List.forall_mem_cons.mpr ⟨t_46, List.forall_mem_cons.mpr ⟨t_47, fun _ h => absurd h List.not_mem_nil⟩⟩⟩⟩⟩⟩⟩⟩⟩⟩⟩⟩⟩⟩⟩⟩⟩⟩⟩⟩⟩⟩⟩⟩
theorem tA_2 : ∀ w ∈ wA_2, w ∈ lw_tbl := List.forall_mem_cons.mpr ⟨t_48, List.forall_mem_cons.mpr ⟨t_49, List.forall_mem_cons.mpr ⟨t_50, List.forall_mem_cons.mpr ⟨t_51, List.forall_mem_cons.mpr ⟨t_52, List.forall_mem_cons.mpr ⟨t_53, List.forall_mem_cons.mpr ⟨t_54, List.forall_mem_cons.mpr ⟨t_55, List.forall_mem_cons.mpr ⟨t_56, List.forall_mem_cons.mpr ⟨t_57, List.forall_mem_cons.mpr ⟨t_58, List.forall_mem_cons.mpr ⟨t_59, List.forall_mem_cons.mpr ⟨t_60, List.forall_mem_cons.mpr ⟨t_61, List.forall_mem_cons.mpr ⟨t_62, List.forall_mem_cons.mpr ⟨t_63, List.forall_mem_cons.mpr ⟨t_64, List.forall_mem_cons.mpr ⟨t_65, List.forall_mem_cons.mpr ⟨t_66, List.forall_mem_cons.mpr ⟨t_67, List.forall_mem_cons.mpr ⟨t_68, List.forall_mem_cons.mpr ⟨t_69, List.forall_mem_cons.mpr ⟨t_70, List.forall_mem_cons.mpr ⟨t_71, fun _ h => absurd h List.not_mem_nil⟩⟩⟩⟩⟩⟩⟩⟩⟩⟩⟩⟩⟩⟩⟩⟩⟩⟩⟩⟩⟩⟩⟩⟩
theorem tA_3 : ∀ w ∈ wA_3, w ∈ lw_tbl := List.forall_mem_cons.mpr ⟨t_72, List.forall_mem_cons.mpr ⟨t_73, List.forall_mem_cons.mpr ⟨t_74, List.forall_mem_cons.mpr ⟨t_75, List.forall_mem_cons.mpr ⟨t_76, List.forall_mem_cons.mpr ⟨t_77, List.forall_mem_cons.mpr ⟨t_78, List.forall_mem_cons.mpr ⟨t_79, List.forall_mem_cons.mpr ⟨t_80, List.forall_mem_cons.mpr ⟨t_81, List.forall_mem_cons.mpr ⟨t_82, List.forall_mem_cons.mpr ⟨t_83, List.forall_mem_cons.mpr ⟨t_84, List.forall_mem_cons.mpr ⟨t_85, List.forall_mem_cons.mpr ⟨t_86, List.forall_mem_cons.mpr ⟨t_87, List.forall_mem_cons.mpr ⟨t_88, List.forall_mem_cons.mpr ⟨t_89, List.forall_mem_cons.mpr ⟨t_90, List.forall_mem_cons.mpr ⟨t_91, List.forall_mem_cons.mpr ⟨t_92, List.forall_mem_cons.mpr ⟨t_93, List.forall_mem_cons.mpr ⟨t_94, List.forall_mem_cons.mpr ⟨t_95, fun _ h => absurd h List.not_mem_nil⟩⟩⟩⟩⟩⟩⟩⟩⟩⟩⟩⟩⟩⟩⟩⟩⟩⟩⟩⟩⟩⟩⟩⟩
theorem tA_4 : ∀ w ∈ wA_4, w ∈ lw_tbl := List.forall_mem_cons.mpr ⟨t_96, List.forall_mem_cons.mpr ⟨t_97, List.forall_mem_cons.mpr ⟨t_98, List.forall_mem_cons.mpr ⟨t_99, List.forall_mem_cons.mpr ⟨t_100, List.forall_mem_cons.mpr ⟨t_101, List.forall_mem_cons.mpr ⟨t_102, List.forall_mem_cons.mpr ⟨t_103, List.forall_mem_cons.mpr ⟨t_104, List.forall_mem_cons.mpr ⟨t_105, List.forall_mem_cons.mpr ⟨t_106, List.forall_mem_cons.mpr ⟨t_107, List.forall_mem_cons.mpr ⟨t_108, List.forall_mem_cons.mpr ⟨t_109, List.forall_mem_cons.mpr ⟨t_110, List.forall_mem_cons.mpr ⟨t_111, List.forall_mem_cons.mpr ⟨t_112, List.forall_mem_cons.mpr ⟨t_113, List.forall_mem_cons.mpr ⟨t_114, List.forall_mem_cons.mpr ⟨t_115, List.forall_mem_cons.mpr ⟨t_116, List.forall_mem_cons.mpr ⟨t_117, List.forall_mem_cons.mpr ⟨t_118, List.forall_mem_cons.mpr ⟨t_119, fun _ h => absurd h List.not_mem_nil⟩⟩⟩⟩⟩⟩⟩⟩⟩⟩⟩⟩⟩⟩⟩⟩⟩⟩⟩⟩⟩⟩⟩⟩
theorem tA_5 : ∀ w ∈ wA_5, w ∈ lw_tbl := List.forall_mem_cons.mpr ⟨t_120, List.forall_mem_cons.mpr ⟨t_121, List.forall_mem_cons.mpr ⟨t_122, List.forall_mem_cons.mpr ⟨t_123, List.forall_mem_cons.mpr ⟨t_124, List.forall_mem_cons.mpr ⟨t_125, List.forall_mem_cons.mpr ⟨t_126, List.forall_mem_cons.mpr ⟨t_127, List.forall_mem_cons.mpr ⟨t_128, List.forall_mem_cons.mpr ⟨t_129, List.forall_mem_cons.mpr ⟨t_130, List.forall_mem_cons.mpr ⟨t_131, List.forall_mem_cons.mpr ⟨t_132, List.forall_mem_cons.mpr ⟨t_133, List.forall_mem_cons.mpr ⟨t_134, List.forall_mem_cons.mpr ⟨t_135, List.forall_mem_cons.mpr ⟨t_136, List.forall_mem_cons.mpr ⟨t_137, List.forall_mem_cons.mpr ⟨t_138, List.forall_mem_cons.mpr ⟨t_139, List.forall_mem_cons.mpr ⟨t_140, List.forall_mem_cons.mpr ⟨t_141, List.forall_mem_cons.mpr ⟨t_142, List.forall_mem_cons.mpr ⟨t_143, fun _ h => absurd h List.not_mem_nil⟩⟩⟩⟩⟩⟩⟩⟩⟩⟩⟩⟩⟩⟩⟩⟩⟩⟩⟩⟩⟩⟩⟩⟩
theorem tA_6 : ∀ w ∈ wA_6, w ∈ lw_tbl := List.forall_mem_cons.mpr ⟨t_144, List.forall_mem_cons.mpr ⟨t_145, List.forall_mem_cons.mpr ⟨t_146, List.forall_mem_cons.mpr ⟨t_147, List.forall_mem_cons.mpr ⟨t_148, List.forall_mem_cons.mpr ⟨t_149, List.forall_mem_cons.mpr ⟨t_150, List.forall_mem_cons.mpr ⟨t_151, List.forall_mem_cons.mpr ⟨t_152, List.forall_mem_cons.mpr ⟨t_153, List.forall_mem_cons.mpr ⟨t_154, List.forall_mem_cons.mpr ⟨t_155, List.forall_mem_cons.mpr ⟨t_156, List.forall_mem_cons.mpr ⟨t_157, List.forall_mem_cons.mpr ⟨t_158, List.forall_mem_cons.mpr ⟨t_159, List.forall_mem_cons.mpr ⟨t_160, List.forall_mem_cons.mpr ⟨t_161, List.forall_mem_cons.mpr ⟨t_162, List.forall_mem_cons.mpr ⟨t_163, List.forall_mem_cons.mpr ⟨t_164, List.forall_mem_cons.mpr ⟨t_165, List.forall_mem_cons.mpr ⟨t_166, List.forall_mem_cons.mpr ⟨t_167, fun _ h => absurd h List.not_mem_nil⟩⟩⟩⟩⟩⟩⟩⟩⟩⟩⟩⟩⟩⟩⟩⟩⟩⟩⟩⟩⟩⟩⟩⟩
theorem tA_7 : ∀ w ∈ wA_7, w ∈ lw_tbl := List.forall_mem_cons.mpr ⟨t_168, List.forall_mem_cons.mpr ⟨t_169, List.forall_mem_cons.mpr ⟨t_170, List.forall_mem_cons.mpr ⟨t_171, List.forall_mem_cons.mpr ⟨t_172, List.forall_mem_cons.mpr ⟨t_173, List.forall_mem_cons.mpr ⟨t_174, List.forall_mem_cons.mpr ⟨t_175, List.forall_mem_cons.mpr ⟨t_176, List.forall_mem_cons.mpr ⟨t_177, List.forall_mem_cons.mpr ⟨t_178, List.forall_mem_cons.mpr ⟨t_179, List.forall_mem_cons.mpr ⟨t_180, List.forall_mem_cons.mpr ⟨t_181, List.forall_mem_cons.mpr ⟨t_182, List.forall_mem_cons.mpr ⟨t_183, List.forall_mem_cons.mpr ⟨t_184, List.forall_mem_cons.mpr ⟨t_185, List.forall_mem_cons.mpr ⟨t_186, List.forall_mem_cons.mpr ⟨t_187, List.forall_mem_cons.mpr ⟨t_188, List.forall_mem_cons.mpr ⟨t_189, List.forall_mem_cons.mpr ⟨t_190, List.forall_mem_cons.mpr ⟨t_191, fun _ h => absurd h List.not_mem_nil⟩⟩⟩⟩⟩⟩⟩⟩⟩⟩⟩⟩⟩⟩⟩⟩⟩⟩⟩⟩⟩⟩⟩⟩
theorem tA_8 : ∀ w ∈ wA_8, w ∈ lw_tbl := List.forall_mem_cons.mpr ⟨t_192, List.forall_mem_cons.mpr ⟨t_193, List.forall_mem_cons.mpr ⟨t_194, List.forall_mem_cons.mpr ⟨t_195, List.forall_mem_cons.mpr ⟨t_196, List.forall_mem_cons.mpr ⟨t_197, List.forall_mem_cons.mpr ⟨t_198, List.forall_mem_cons.mpr ⟨t_199, List.forall_mem_cons.mpr ⟨t_200, List.forall_mem_cons.mpr ⟨t_201, List.forall_mem_cons.mpr ⟨t_202, List.forall_mem_cons.mpr ⟨t_203, List.forall_mem_cons.mpr ⟨t_204, List.forall_mem_cons.mpr ⟨t_205, List.forall_mem_cons.mpr ⟨t_206, List.forall_mem_cons.mpr ⟨t_207, List.forall_mem_cons.mpr ⟨t_208, List.forall_mem_cons.mpr ⟨t_209, List.forall_mem_cons.mpr ⟨t_210, List.forall_mem_cons.mpr ⟨t_211, List.forall_mem_cons.mpr ⟨t_212, List.forall_mem_cons.mpr ⟨t_213, List.forall_mem_cons.mpr ⟨t_214, List.forall_mem_cons.mpr ⟨t_215, fun _ h => absurd h List.not_mem_nil⟩⟩⟩⟩⟩⟩⟩⟩⟩⟩⟩⟩⟩⟩⟩⟩⟩⟩⟩⟩⟩⟩⟩⟩
theorem tA_9 : ∀ w ∈ wA_9, w ∈ lw_tbl := List.forall_mem_cons.mpr ⟨t_216, List.forall_mem_cons.mpr ⟨t_217, List.forall_mem_cons.mpr ⟨t_218, List.forall_mem_cons.mpr ⟨t_219, List.forall_mem_cons.mpr ⟨t_220, List.forall_mem_cons.mpr ⟨t_221, List.forall_mem_cons.mpr ⟨t_222, List.forall_mem_cons.mpr ⟨t_223, List.forall_mem_cons.mpr ⟨t_224, List.forall_mem_cons.mpr ⟨t_225, List.forall_mem_cons.mpr ⟨t_226, List.forall_mem_cons.mpr ⟨t_227, List.forall_mem_cons.mpr ⟨t_228, List.forall_mem_cons.mpr ⟨t_229, List.forall_mem_cons.mpr ⟨t_230, List.forall_mem_cons.mpr ⟨t_231, List.forall_mem_cons.mpr ⟨t_232, List.forall_mem_cons.mpr ⟨t_233, List.forall_mem_cons.mpr ⟨t_234, List.forall_mem_cons.mpr ⟨t_235, List.forall_mem_cons.mpr ⟨t_236, List.forall_mem_cons.mpr ⟨t_237, List.forall_mem_cons.mpr ⟨t_238, List.forall_mem_cons.mpr ⟨t_239, fun _ h => absurd h List.not_mem_nil⟩⟩⟩⟩⟩⟩⟩⟩⟩⟩⟩⟩⟩⟩⟩⟩⟩⟩⟩⟩⟩⟩⟩⟩
theorem tA_10 : ∀ w ∈ wA_10, w ∈ lw_tbl := List.forall_mem_cons.mpr ⟨t_240, List.forall_mem_cons.mpr ⟨t_241, List.forall_mem_cons.mpr ⟨t_242, List.forall_mem_cons.mpr ⟨t_243, List.forall_mem_cons.mpr ⟨t_244, List.forall_mem_cons.mpr ⟨t_245, List.forall_mem_cons.mpr ⟨t_246, List.forall_mem_cons.mpr ⟨t_247, List.forall_mem_cons.mpr ⟨t_248, List.forall_mem_cons.mpr ⟨t_249, List.forall_mem_cons.mpr ⟨t_250, List.forall_mem_cons.mpr ⟨t_251, List.forall_mem_cons.mpr ⟨t_252, List.forall_mem_cons.mpr ⟨t_253, List.forall_mem_cons.mpr ⟨t_254, List.forall_mem_cons.mpr ⟨t_255, List.forall_mem_cons.mpr ⟨t_256, List.forall_mem_cons.mpr ⟨t_257, List.forall_mem_cons.mpr ⟨t_258, List.forall_mem_cons.mpr ⟨t_259, List.forall_mem_cons.mpr ⟨t_260, List.forall_mem_cons.mpr ⟨t_261, List.forall_mem_cons.mpr ⟨t_262, List.forall_mem_cons.mpr ⟨t_263, fun _ h => absurd h List.not_mem_nil⟩⟩⟩⟩⟩⟩⟩⟩⟩⟩⟩⟩⟩⟩⟩⟩⟩⟩⟩⟩⟩⟩⟩⟩
theorem tA_11 : ∀ w ∈ wA_11, w ∈ lw_tbl := List.forall_mem_cons.mpr ⟨t_264, List.forall_mem_cons.mpr ⟨t_265, List.forall_mem_cons.mpr ⟨t_266, List.forall_mem_cons.mpr ⟨t_267, List.forall_mem_cons.mpr ⟨t_268, List.forall_mem_cons.mpr ⟨t_269, List.forall_mem_cons.mpr ⟨t_270, List.forall_mem_cons.mpr ⟨t_271, List.forall_mem_cons.mpr ⟨t_272, List.forall_mem_cons.mpr ⟨t_273, List.forall_mem_cons.mpr ⟨t_274, List.forall_mem_cons.mpr ⟨t_275, List.forall_mem_cons.mpr ⟨t_276, List.forall_mem_cons.mpr ⟨t_277, List.forall_mem_cons.mpr ⟨t_278, List.forall_mem_cons.mpr ⟨t_279, List.forall_mem_cons.mpr ⟨t_280, List.forall_mem_cons.mpr ⟨t_281, List.forall_mem_cons.mpr ⟨t_282, List.forall_mem_cons.mpr ⟨t_283, List.forall_mem_cons.mpr ⟨t_284, List.forall_mem_cons.mpr ⟨t_285, List.forall_mem_cons.mpr ⟨t_286, List.forall_mem_cons.mpr ⟨t_287, fun _ h => absurd h List.not_mem_nil⟩⟩⟩⟩⟩⟩⟩⟩⟩⟩⟩⟩⟩⟩⟩⟩⟩⟩⟩⟩⟩⟩⟩⟩
theorem tA_12 : ∀ w ∈ wA_12, w ∈ lw_tbl := List.forall_mem_cons.mpr ⟨t_288, List.forall_mem_cons.mpr ⟨t_289, List.forall_mem_cons.mpr ⟨t_290, List.forall_mem_cons.mpr ⟨t_291, List.forall_mem_cons.mpr ⟨t_292, List.forall_mem_cons.mpr ⟨t_293, List.forall_mem_cons.mpr ⟨t_294, List.forall_mem_cons.mpr ⟨t_295, List.forall_mem_cons.mpr ⟨t_296, List.forall_mem_cons.mpr ⟨t_297, List.forall_mem_cons.mpr ⟨t_298, List.forall_mem_cons.mpr ⟨t_299, List.forall_mem_cons.mpr ⟨t_300, List.forall_mem_cons.mpr ⟨t_301, List.forall_mem_cons.mpr ⟨t_302, List.forall_mem_cons.mpr ⟨t_303, List.forall_mem_cons.mpr ⟨t_304, List.forall_mem_cons.mpr ⟨t_305, List.forall_mem_cons.mpr ⟨t_306, List.forall_mem_cons.mpr ⟨t_307, List.forall_mem_cons.mpr ⟨t_308, List.forall_mem_cons.mpr ⟨t_309, List.forall_mem_cons.mpr ⟨t_310, List.forall_mem_cons.mpr ⟨t_311, fun _ h => absurd h List.not_mem_nil⟩⟩⟩⟩⟩⟩⟩⟩⟩⟩⟩⟩⟩⟩⟩⟩⟩⟩⟩⟩⟩⟩⟩⟩
theorem tA_13 : ∀ w ∈ wA_13, w ∈ lw_tbl := List.forall_mem_cons.mpr ⟨t_312, List.forall_mem_cons.mpr ⟨t_313, List.forall_mem_cons.mpr ⟨t_314, List.forall_mem_cons.mpr ⟨t_315, List.forall_mem_cons.mpr ⟨t_316, List.forall_mem_cons.mpr ⟨t_317, List.forall_mem_cons.mpr ⟨t_318, List.forall_mem_cons.mpr ⟨t_319, List.forall_mem_cons.mpr ⟨t_320, List.forall_mem_cons.mpr ⟨t_321, List.forall_mem_cons.mpr ⟨t_322, List.forall_mem_cons.mpr ⟨t_323, List.forall_mem_cons.mpr ⟨t_324, List.forall_mem_cons.mpr ⟨t_325, List.forall_mem_cons.mpr ⟨t_326, List.forall_mem_cons.mpr ⟨t_327, List.forall_mem_cons.mpr ⟨t_328, List.forall_mem_cons.mpr ⟨t_329, List.forall_mem_cons.mpr ⟨t_330, List.forall_mem_cons.mpr ⟨t_331, List.forall_mem_cons.mpr ⟨t_332, List.forall_mem_cons.mpr ⟨t_333, List.forall_mem_cons.mpr ⟨t_334, List.forall_mem_cons.mpr ⟨t_335, fun _ h => absurd h List.not_mem_nil⟩⟩⟩⟩⟩⟩⟩⟩⟩⟩⟩⟩⟩⟩⟩⟩⟩⟩⟩⟩⟩⟩⟩⟩
theorem tA_14 : ∀ w ∈ wA_14, w ∈ lw_tbl := List.forall_mem_cons.mpr ⟨t_336, List.forall_mem_cons.mpr ⟨t_337, List.forall_mem_cons.mpr ⟨t_338, List.forall_mem_cons.mpr ⟨t_339, List.forall_mem_cons.mpr ⟨t_340, List.forall_mem_cons.mpr ⟨t_341, List.forall_mem_cons.mpr ⟨t_342, List.forall_mem_cons.mpr ⟨t_343, List.forall_mem_cons.mpr ⟨t_344, List.forall_mem_cons.mpr ⟨t_345, List.forall_mem_cons.mpr ⟨t_346, List.forall_mem_cons.mpr ⟨t_347, List.forall_mem_cons.mpr ⟨t_348, List.forall_mem_cons.mpr ⟨t_349, List.forall_mem_cons.mpr ⟨t_350, List.forall_mem_cons.mpr ⟨t_351, List.forall_mem_cons.mpr ⟨t_352, List.forall_mem_cons.mpr ⟨t_353, List.forall_mem_cons.mpr ⟨t_354, List.forall_mem_cons.mpr ⟨t_355, List.forall_mem_cons.mpr ⟨t_356, List.forall_mem_cons.mpr ⟨t_357, List.forall_mem_cons.mpr ⟨t_358, List.forall_mem_cons.mpr ⟨t_359, fun _ h => absurd h List.not_mem_nil⟩⟩⟩⟩⟩⟩⟩⟩⟩⟩⟩⟩⟩⟩⟩⟩⟩⟩⟩⟩⟩⟩⟩⟩
theorem tA_15 : ∀ w ∈ wA_15, w ∈ lw_tbl := List.forall_mem_cons.mpr ⟨t_360, List.forall_mem_cons.mpr ⟨t_361, List.forall_mem_cons.mpr ⟨t_362, List.forall_mem_cons.mpr ⟨t_363, List.forall_mem_cons.mpr ⟨t_364, List.forall_mem_cons.mpr ⟨t_365, List.forall_mem_cons.mpr ⟨t_366, List.forall_mem_cons.mpr ⟨t_367, List.forall_mem_cons.mpr ⟨t_368, List.forall_mem_cons.mpr ⟨t_369, List.forall_mem_cons.mpr ⟨t_370, List.forall_mem_cons.mpr ⟨t_371, List.forall_mem_cons.mpr ⟨t_372, List.forall_mem_cons.mpr ⟨t_373, List.forall_mem_cons.mpr ⟨t_374, List.forall_mem_cons.mpr ⟨t_375, List.forall_mem_cons.mpr ⟨t_376, List.forall_mem_cons.mpr ⟨t_377, List.forall_mem_cons.mpr ⟨t_378, List.forall_mem_cons.mpr ⟨t_379, List.forall_mem_cons.mpr ⟨t_380, List.forall_mem_cons.mpr ⟨t_381, List.forall_mem_cons.mpr ⟨t_382, List.forall_mem_cons.mpr ⟨t_383, fun _ h => absurd h List.not_mem_nil⟩⟩⟩⟩⟩⟩⟩⟩⟩⟩⟩⟩⟩⟩⟩⟩⟩⟩⟩⟩⟩⟩⟩⟩
theorem tA_16 : ∀ w ∈ wA_16, w ∈ lw_tbl := List.forall_mem_cons.mpr ⟨t_384, List.forall_mem_cons.mpr ⟨t_385, List.forall_mem_cons.mpr ⟨t_386, List.forall_mem_cons.mpr ⟨t_387, List.forall_mem_cons.mpr ⟨t_388, List.forall_mem_cons.mpr ⟨t_389, List.forall_mem_cons.mpr ⟨t_390, List.forall_mem_cons.mpr ⟨t_391, List.forall_mem_cons.mpr ⟨t_392, List.forall_mem_cons.mpr ⟨t_393, List.forall_mem_cons.mpr ⟨t_394, List.forall_mem_cons.mpr ⟨t_395, List.forall_mem_cons.mpr ⟨t_396, List.forall_mem_cons.mpr ⟨t_397, List.forall_mem_cons.mpr ⟨t_398, List.forall_mem_cons.mpr ⟨t_399, List.forall_mem_cons.mpr ⟨t_400, List.forall_mem_cons.mpr ⟨t_401, List.forall_mem_cons.mpr ⟨t_402, List.forall_mem_cons.mpr ⟨t_403, List.forall_mem_cons.mpr ⟨t_404, List.forall_mem_cons.mpr ⟨t_405, List.forall_mem_cons.mpr ⟨t_406, List.forall_mem_cons.mpr ⟨t_407, fun _ h => absurd h List.not_mem_nil⟩⟩⟩⟩⟩⟩⟩⟩⟩⟩⟩⟩⟩⟩⟩⟩⟩⟩⟩⟩⟩⟩⟩⟩
theorem tA_17 : ∀ w ∈ wA_17, w ∈ lw_tbl := List.forall_mem_cons.mpr ⟨t_408, List.forall_mem_cons.mpr ⟨t_409, List.forall_mem_cons.mpr ⟨t_410, List.forall_mem_cons.mpr ⟨t_411, List.forall_mem_cons.mpr ⟨t_412, List.forall_mem_cons.mpr ⟨t_413, List.forall_mem_cons.mpr ⟨t_414, List.forall_mem_cons.mpr ⟨t_415, List.forall_mem_cons.mpr ⟨t_416, List.forall_mem_cons.mpr ⟨t_417, List.forall_mem_cons.mpr ⟨t_418, List.forall_mem_cons.mpr ⟨t_419, List.forall_mem_cons.mpr ⟨t_420, List.forall_mem_cons.mpr ⟨t_421, List.forall_mem_cons.mpr ⟨t_422, List.forall_mem_cons.mpr ⟨t_423, List.forall_mem_cons.mpr ⟨t_424, List.forall_mem_cons.mpr ⟨t_425, List.forall_mem_cons.mpr ⟨t_426, List.forall_mem_cons.mpr ⟨t_427, List.forall_mem_cons.mpr ⟨t_428, List.forall_mem_cons.mpr ⟨t_429, List.forall_mem_cons.mpr ⟨t_430, List.forall_mem_cons.mpr ⟨t_431, fun _ h => absurd h List.not_mem_nil⟩⟩⟩⟩⟩⟩⟩⟩⟩⟩⟩⟩⟩⟩⟩⟩⟩⟩⟩⟩⟩⟩⟩⟩
theorem tA_18 : ∀ w ∈ wA_18, w ∈ lw_tbl := List.forall_mem_cons.mpr ⟨t_432, List.forall_mem_cons.mpr ⟨t_433, List.forall_mem_cons.mpr ⟨t_434, List.forall_mem_cons.mpr ⟨t_435, List.forall_mem_cons.mpr ⟨t_436, List.forall_mem_cons.mpr ⟨t_437, List.forall_mem_cons.mpr ⟨t_438, List.forall_mem_cons.mpr ⟨t_439, List.forall_mem_cons.mpr ⟨t_440, List.forall_mem_cons.mpr ⟨t_441, List.forall_mem_cons.mpr ⟨t_442, List.forall_mem_cons.mpr ⟨t_443, List.forall_mem_cons.mpr ⟨t_444, List.forall_mem_cons.mpr ⟨t_445, List.forall_mem_cons.mpr ⟨t_446, List.forall_mem_cons.mpr ⟨t_447, List.forall_mem_cons.mpr ⟨t_448, List.forall_mem_cons.mpr ⟨t_449, List.forall_mem_cons.mpr ⟨t_450, List.forall_mem_cons.mpr ⟨t_451, List.forall_mem_cons.mpr ⟨t_452, List.forall_mem_cons.mpr ⟨t_453, List.forall_mem_cons.mpr ⟨t_454, List.forall_mem_cons.mpr ⟨t_455, fun _ h => absurd h List.not_mem_nil⟩⟩⟩⟩⟩⟩⟩⟩⟩⟩⟩⟩⟩⟩⟩⟩⟩⟩⟩⟩⟩⟩⟩⟩
theorem tA_19 : ∀ w ∈ wA_19, w ∈ lw_tbl := List.forall_mem_cons.mpr ⟨t_456, List.forall_mem_cons.mpr ⟨t_457, List.forall_mem_cons.mpr ⟨t_458, List.forall_mem_cons.mpr ⟨t_459, List.forall_mem_cons.mpr ⟨t_460, List.forall_mem_cons.mpr ⟨t_461, List.forall_mem_cons.mpr ⟨t_462, List.forall_mem_cons.mpr ⟨t_463, List.forall_mem_cons.mpr ⟨t_464, List.forall_mem_cons.mpr ⟨t_465, List.forall_mem_cons.mpr ⟨t_466, List.forall_mem_cons.mpr ⟨t_467, List.forall_mem_cons.mpr ⟨t_468, List.forall_mem_cons.mpr ⟨t_469, List.forall_mem_cons.mpr ⟨t_470, List.forall_mem_cons.mpr ⟨t_471, List.forall_mem_cons.mpr ⟨t_472, List.forall_mem_cons.mpr ⟨t_473, List.forall_mem_cons.mpr ⟨t_474, List.forall_mem_cons.mpr ⟨t_475, List.forall_mem_cons.mpr ⟨t_476, List.forall_mem_cons.mpr ⟨t_477, List.forall_mem_cons.mpr ⟨t_478, List.forall_mem_cons.mpr ⟨t_479, fun _ h => absurd h List.not_mem_nil⟩⟩⟩⟩⟩⟩⟩⟩⟩⟩⟩⟩⟩⟩⟩⟩⟩⟩⟩⟩⟩⟩⟩⟩
theorem tA_20 : ∀ w ∈ wA_20, w ∈ lw_tbl := List.forall_mem_cons.mpr ⟨t_480, List.forall_mem_cons.mpr ⟨t_481, List.forall_mem_cons.mpr ⟨t_482, List.forall_mem_cons.mpr ⟨t_483, List.forall_mem_cons.mpr ⟨t_484, List.forall_mem_cons.mpr ⟨t_485, List.forall_mem_cons.mpr ⟨t_486, List.forall_mem_cons.mpr ⟨t_487, List.forall_mem_cons.mpr ⟨t_488, List.forall_mem_cons.mpr ⟨t_489, List.forall_mem_cons.mpr ⟨t_490, List.forall_mem_cons.mpr ⟨t_491, List.forall_mem_cons.mpr ⟨t_492, List.forall_mem_cons.mpr ⟨t_493, List.forall_mem_cons.mpr ⟨t_494, List.forall_mem_cons.mpr ⟨t_495, List.forall_mem_cons.mpr ⟨t_496, List.forall_mem_cons.mpr ⟨t_497, List.forall_mem_cons.mpr ⟨t_498, List.forall_mem_cons.mpr ⟨t_499, List.forall_mem_cons.mpr ⟨t_500, List.forall_mem_cons.mpr ⟨t_501, List.forall_mem_cons.mpr ⟨t_502, List.forall_mem_cons.mpr ⟨t_503, fun _ h => absurd h List.not_mem_nil⟩⟩⟩⟩⟩⟩⟩⟩⟩⟩⟩⟩⟩⟩⟩⟩⟩⟩⟩⟩⟩⟩⟩⟩
theorem tA_21 : ∀ w ∈ wA_21, w ∈ lw_tbl := List.forall_mem_cons.mpr ⟨t_504, List.forall_mem_cons.mpr ⟨t_505, List.forall_mem_cons.mpr ⟨t_506, List.forall_mem_cons.mpr ⟨t_507, List.forall_mem_cons.mpr ⟨t_508, List.forall_mem_cons.mpr ⟨t_509, List.forall_mem_cons.mpr ⟨t_510, List.forall_mem_cons.mpr ⟨t_511, List.forall_mem_cons.mpr ⟨t_512, List.forall_mem_cons.mpr ⟨t_513, List.forall_mem_cons.mpr ⟨t_514, List.forall_mem_cons.mpr ⟨t_515, List.forall_mem_cons.mpr ⟨t_516, List.forall_mem_cons.mpr ⟨t_517, List.forall_mem_cons.mpr ⟨t_518, List.forall_mem_cons.mpr ⟨t_519, List.forall_mem_cons.mpr ⟨t_520, List.forall_mem_cons.mpr ⟨t_521, List.forall_mem_cons.mpr ⟨t_522, List.forall_mem_cons.mpr ⟨t_523, List.forall_mem_cons.mpr ⟨t_524, List.forall_mem_cons.mpr ⟨t_525, List.forall_mem_cons.mpr ⟨t_526, List.forall_mem_cons.mpr ⟨t_527, fun _ h => absurd h List.not_mem_nil⟩⟩⟩⟩⟩⟩⟩⟩⟩⟩⟩⟩⟩⟩⟩⟩⟩⟩⟩⟩⟩⟩⟩⟩
theorem tA_22 : ∀ w ∈ wA_22, w ∈ lw_tbl := List.forall_mem_cons.mpr ⟨t_528, List.forall_mem_cons.mpr ⟨t_529, List.forall_mem_cons.mpr ⟨t_530, List.forall_mem_cons.mpr ⟨t_531, List.forall_mem_cons.mpr ⟨t_532, List.forall_mem_cons.mpr ⟨t_533, List.forall_mem_cons.mpr ⟨t_534, List.forall_mem_cons.mpr ⟨t_535, List.forall_mem_cons.mpr ⟨t_536, List.forall_mem_cons.mpr ⟨t_537, List.forall_mem_cons.mpr ⟨t_538, List.forall_mem_cons.mpr ⟨t_539, List.forall_mem_cons.mpr ⟨t_540, List.forall_mem_cons.mpr ⟨t_541, List.forall_mem_cons.mpr ⟨t_542, List.forall_mem_cons.mpr ⟨t_543, List.forall_mem_cons.mpr ⟨t_544, List.forall_mem_cons.mpr ⟨t_545, List.forall_mem_cons.mpr ⟨t_546, List.forall_mem_cons.mpr ⟨t_547, List.forall_mem_cons.mpr ⟨t_548, List.forall_mem_cons.mpr ⟨t_549, List.forall_mem_cons.mpr ⟨t_550, List.forall_mem_cons.mpr ⟨t_551, fun _ h => absurd h List.not_mem_nil⟩⟩⟩⟩⟩⟩⟩⟩⟩⟩⟩⟩⟩⟩⟩⟩⟩⟩⟩⟩⟩⟩⟩⟩
theorem tA_23 : ∀ w ∈ wA_23, w ∈ lw_tbl := List.forall_mem_cons.mpr ⟨t_552, List.forall_mem_cons.mpr ⟨t_553, List.forall_mem_cons.mpr ⟨t_554, List.forall_mem_cons.mpr ⟨t_555, List.forall_mem_cons.mpr ⟨t_556, List.forall_mem_cons.mpr ⟨t_557, List.forall_mem_cons.mpr ⟨t_558, List.forall_mem_cons.mpr ⟨t_559, List.forall_mem_cons.mpr ⟨t_560, List.forall_mem_cons.mpr ⟨t_561, List.forall_mem_cons.mpr ⟨t_562, List.forall_mem_cons.mpr ⟨t_563, List.forall_mem_cons.mpr ⟨t_564, List.forall_mem_cons.mpr ⟨t_565, List.forall_mem_cons.mpr ⟨t_566, List.forall_mem_cons.mpr ⟨t_567, List.forall_mem_cons.mpr ⟨t_568, List.forall_mem_cons.mpr ⟨t_569, List.forall_mem_cons.mpr ⟨t_570, List.forall_mem_cons.mpr ⟨t_571, List.forall_mem_cons.mpr ⟨t_572, List.forall_mem_cons.mpr ⟨t_573, List.forall_mem_cons.mpr ⟨t_574, List.forall_mem_cons.mpr ⟨t_575, fun _ h => absurd h List.not_mem_nil⟩⟩⟩⟩⟩⟩⟩⟩⟩⟩⟩⟩⟩⟩⟩⟩⟩⟩⟩⟩⟩⟩⟩⟩
theorem tA_24 : ∀ w ∈ wA_24, w ∈ lw_tbl := List.forall_mem_cons.mpr ⟨t_576, List.forall_mem_cons.mpr ⟨t_577, List.forall_mem_cons.mpr ⟨t_578, List.forall_mem_cons.mpr ⟨t_579, List.forall_mem_cons.mpr ⟨t_580, List.forall_mem_cons.mpr ⟨t_581, List.forall_mem_cons.mpr ⟨t_582, List.forall_mem_cons.mpr ⟨t_583, List.forall_mem_cons.mpr ⟨t_584, List.forall_mem_cons.mpr ⟨t_585, List.forall_mem_cons.mpr ⟨t_586, List.forall_mem_cons.mpr ⟨t_587, List.forall_mem_cons.mpr ⟨t_588, List.forall_mem_cons.mpr ⟨t_589, List.forall_mem_cons.mpr ⟨t_590, List.forall_mem_cons.mpr ⟨t_591, List.forall_mem_cons.mpr ⟨t_592, List.forall_mem_cons.mpr ⟨t_593, List.forall_mem_cons.mpr ⟨t_594, List.forall_mem_cons.mpr ⟨t_595, List.forall_mem_cons.mpr ⟨t_596, List.forall_mem_cons.mpr ⟨t_597, List.forall_mem_cons.mpr ⟨t_598, List.forall_mem_cons.mpr ⟨t_599, fun _ h => absurd h List.not_mem_nil⟩⟩⟩⟩⟩⟩⟩⟩⟩⟩⟩⟩⟩⟩⟩⟩⟩⟩⟩⟩⟩⟩⟩⟩
theorem tA_25 : ∀ w ∈ wA_25, w ∈ lw_tbl := List.forall_mem_cons.mpr ⟨t_600, List.forall_mem_cons.mpr ⟨t_601, List.forall_mem_cons.mpr ⟨t_602, List.forall_mem_cons.mpr ⟨t_603, List.forall_mem_cons.mpr ⟨t_604, List.forall_mem_cons.mpr ⟨t_605, List.forall_mem_cons.mpr ⟨t_606, List.forall_mem_cons.mpr ⟨t_607, List.forall_mem_cons.mpr ⟨t_608, List.forall_mem_cons.mpr ⟨t_609, List.forall_mem_cons.mpr ⟨t_610, List.forall_mem_cons.mpr ⟨t_611, List.forall_mem_cons.mpr ⟨t_612, List.forall_mem_cons.mpr ⟨t_613, List.forall_mem_cons.mpr ⟨t_614, List.forall_mem_cons.mpr ⟨t_615, List.forall_mem_cons.mpr ⟨t_616, List.forall_mem_cons.mpr ⟨t_617, List.forall_mem_cons.mpr ⟨t_618, List.forall_mem_cons.mpr ⟨t_619, List.forall_mem_cons.mpr ⟨t_620, List.forall_mem_cons.mpr ⟨t_621, List.forall_mem_cons.mpr ⟨t_622, List.forall_mem_cons.mpr ⟨t_623, fun _ h => absurd h List.not_mem_nil⟩⟩⟩⟩⟩⟩⟩⟩⟩⟩⟩⟩⟩⟩⟩⟩⟩⟩⟩⟩⟩⟩⟩⟩
theorem tA_26 : ∀ w ∈ wA_26, w ∈ lw_tbl := List.forall_mem_cons.mpr ⟨t_624, List.forall_mem_cons.mpr ⟨t_625, List.forall_mem_cons.mpr ⟨t_626, List.forall_mem_cons.mpr ⟨t_627, List.forall_mem_cons.mpr ⟨t_628, List.forall_mem_cons.mpr ⟨t_629, List.forall_mem_cons.mpr ⟨t_630, List.forall_mem_cons.mpr ⟨t_631, List.forall_mem_cons.mpr ⟨t_632, List.forall_mem_cons.mpr ⟨t_633, List.forall_mem_cons.mpr ⟨t_634, List.forall_mem_cons.mpr ⟨t_635, List.forall_mem_cons.mpr ⟨t_636, List.forall_mem_cons.mpr ⟨t_637, List.forall_mem_cons.mpr ⟨t_638, List.forall_mem_cons.mpr ⟨t_639, List.forall_mem_cons.mpr ⟨t_640, List.forall_mem_cons.mpr ⟨t_641, List.forall_mem_cons.mpr ⟨t_642, List.forall_mem_cons.mpr ⟨t_643, List.forall_mem_cons.mpr ⟨t_644, List.forall_mem_cons.mpr ⟨t_645, List.forall_mem_cons.mpr ⟨t_646, List.forall_mem_cons.mpr ⟨t_647, fun _ h => absurd h List.not_mem_nil⟩⟩⟩⟩⟩⟩⟩⟩⟩⟩⟩⟩⟩⟩⟩⟩⟩⟩⟩⟩⟩⟩⟩⟩
theorem tA_27 : ∀ w ∈ wA_27, w ∈ lw_tbl := List.forall_mem_cons.mpr ⟨t_648, List.forall_mem_cons.mpr ⟨t_649, List.forall_mem_cons.mpr ⟨t_650, List.forall_mem_cons.mpr ⟨t_651, List.forall_mem_cons.mpr ⟨t_652, List.forall_mem_cons.mpr ⟨t_653, List.forall_mem_cons.mpr ⟨t_654, List.forall_mem_cons.mpr ⟨t_655, List.forall_mem_cons.mpr ⟨t_656, List.forall_mem_cons.mpr ⟨t_657, List.forall_mem_cons.mpr ⟨t_658, List.forall_mem_cons.mpr ⟨t_659, List.forall_mem_cons.mpr ⟨t_660, List.forall_mem_cons.mpr ⟨t_661, List.forall_mem_cons.mpr ⟨t_662, List.forall_mem_cons.mpr ⟨t_663, fun _ h => absurd h List.not_mem_nil⟩⟩⟩⟩⟩⟩⟩⟩⟩⟩⟩⟩⟩⟩⟩⟩
set_option maxRecDepth 20000 in
theorem tU_X5 : ∀ w ∈ wsX50, w ∈ lw_tbl := fun w h => List.mem_append_right _ (mem_r (big := tables_1) [433, 435, 437, 439] (by decide +kernel) w h)
set_option maxRecDepth 20000 in
theorem tU_X7 : ∀ w ∈ wsX70, w ∈ lw_tbl := fun w h => List.mem_append_right _ (mem_r (big := tables_1) [84, 86, 88, 90, 92, 94, 96, 98, 100, 102, 104, 106] (by decide +kernel) w h)
set_option maxRecDepth 20000 in
theorem tU_X0 : ∀ w ∈ wsX00, w ∈ lw_tbl := fun w h => List.mem_append_right _ (mem_r (big := tables_1) [137, 139, 141, 143, 145, 147, 149, 151, 153, 155] (by decide +kernel) w h)
set_option maxRecDepth 20000 in
theorem tU_X1 : ∀ w ∈ wsX10, w ∈ lw_tbl := fun w h => List.mem_append_right _ (mem_r (big := tables_1) [226, 228, 230, 232, 234, 236, 238, 240] (by decide +kernel) w h)
set_option maxRecDepth 20000 in
theorem tU_X2 : ∀ w ∈ wsX20, w ∈ lw_tbl := fun w h => List.mem_append_right _ (mem_r (big := tables_1) [260, 262, 264, 266, 268] (by decide +kernel) w h)
set_option maxRecDepth 20000 in
theorem tU_X4 : ∀ w ∈ wsX40, w ∈ lw_tbl := fun w h => List.mem_append_right _ (mem_r (big := tables_1) [339, 341, 343, 345, 347, 349, 351, 353, 355, 357, 359, 361, 363, 365, 367, 369, 371] (by decide +kernel) w h)
set_option maxRecDepth 20000 in
theorem tU_X8 : ∀ w ∈ wsX80, w ∈ lw_tbl := fun w h => List.mem_append_right _ (mem_r (big := tables_1) [394, 396, 398, 400, 402, 404, 406, 408, 410, 412, 414] (by decide +kernel) w h)
set_option maxRecDepth 20000 in
theorem tU_X3 : ∀ w ∈ wsX30, w ∈ lw_tbl := fun w h => List.mem_append_right _ (mem_r (big := tables_1) [172, 174, 176, 178, 180, 182, 184, 186, 188, 190] (by decide +kernel) w h)
set_option maxRecDepth 20000 in
theorem tU_X6 : ∀ w ∈ wsX60, w ∈ lw_tbl := fun w h => List.mem_append_right _ (mem_r (big := tables_1) [291, 293, 295, 297, 299, 301, 303, 305] (by decide +kernel) w h)
set_option maxRecDepth 20000 in
theorem tU_X9 : ∀ w ∈ wsX90, w ∈ lw_tbl := fun w h => List.mem_append_right _ (mem_r (big := tables_1) [453, 455, 457, 459, 461, 463, 465, 467, 469, 471] (by decide +kernel) w h)
set_option maxRecDepth 20000 in
theorem tU_X10 : ∀ w ∈ wsX100, w ∈ lw_tbl := fun w h => List.mem_append_right _ (mem_r (big := tables_1) [1174, 1176, 1178, 1180, 1182, 1184, 1186, 1188, 1190, 1192, 1194, 1196, 1198, 1200, 1202, 1204, 1206, 1208, 1210, 1212, 1214, 1216, 1218, 1220, 1222, 1224, 1226, 1228, 1230, 1232, 1234, 1236, 1238, 1240, 1242, 1244, 1246, 1248, 1250, 1252, 1254] (by decide +kernel) w h)
theorem wAll_in : ∀ w ∈ wAll, w ∈ lw_tbl := List.forall_mem_append.mpr ⟨tA_0, List.forall_mem_append.mpr ⟨tA_1, List.forall_mem_append.mpr ⟨tA_2, List.forall_mem_append.mpr ⟨tA_3, List.forall_mem_append.mpr ⟨tA_4, List.forall_mem_append.mpr ⟨tA_5, List.forall_mem_append.mpr ⟨tA_6, List.forall_mem_append.mpr ⟨tA_7, List.forall_mem_append.mpr ⟨tA_8, List.forall_mem_append.mpr ⟨tA_9, List.forall_mem_append.mpr ⟨tA_10, List.forall_mem_append.mpr ⟨tA_11, List.forall_mem_append.mpr ⟨tA_12, List.forall_mem_append.mpr ⟨tA_13, List.forall_mem_append.mpr ⟨tA_14, List.forall_mem_append.mpr ⟨tA_15, List.forall_mem_append.mpr ⟨tA_16, List.forall_mem_append.mpr ⟨tA_17, List.forall_mem_append.mpr ⟨tA_18, List.forall_mem_append.mpr ⟨tA_19, List.forall_mem_append.mpr ⟨tA_20, List.forall_mem_append.mpr ⟨tA_21, List.forall_mem_append.mpr ⟨tA_22, List.forall_mem_append.mpr ⟨tA_23, List.forall_mem_append.mpr ⟨tA_24, List.forall_mem_append.mpr ⟨tA_25, List.forall_mem_append.mpr ⟨tA_26, List.forall_mem_append.mpr ⟨tA_27, List.forall_mem_append.mpr ⟨tU_X5, List.forall_mem_append.mpr ⟨tU_X7, List.forall_mem_append.mpr ⟨tU_X0, List.forall_mem_append.mpr ⟨tU_X1, List.forall_mem_append.mpr ⟨tU_X2, List.forall_mem_append.mpr ⟨tU_X4, List.forall_mem_append.mpr ⟨tU_X8, List.forall_mem_append.mpr ⟨tU_X3, List.forall_mem_append.mpr ⟨tU_X6, List.forall_mem_append.mpr ⟨tU_X9, tU_X10⟩⟩⟩⟩⟩⟩⟩⟩⟩⟩⟩⟩⟩⟩⟩⟩⟩⟩⟩⟩⟩⟩⟩⟩⟩⟩⟩⟩⟩⟩⟩⟩⟩⟩⟩⟩⟩⟩
theorem gd_wA_0 : wA_0.all goodWord = true := by decide +kernel
theorem gd_wA_1 : wA_1.all goodWord = true := by decide +kernel
theorem gd_wA_2 : wA_2.all goodWord = true := by decide +kernel
theorem gd_wA_3 : wA_3.all goodWord = true := by decide +kernel
theorem gd_wA_4 : wA_4.all goodWord = true := by decide +kernel
theorem gd_wA_5 : wA_5.all goodWord = true := by decide +kernel
theorem gd_wA_6 : wA_6.all goodWord = true := by decide +kernel
theorem gd_wA_7 : wA_7.all goodWord = true := by decide +kernel
theorem gd_wA_8 : wA_8.all goodWord = true := by decide +kernel
theorem gd_wA_9 : wA_9.all goodWord = true := by decide +kernel
theorem gd_wA_10 : wA_10.all goodWord = true := by decide +kernel
theorem gd_wA_11 : wA_11.all goodWord = true := by decide +kernel
theorem gd_wA_12 : wA_12.all goodWord = true := by decide +kernel
theorem gd_wA_13 : wA_13.all goodWord = true := by decide +kernel
theorem gd_wA_14 : wA_14.all goodWord = true := by decide +kernel
theorem gd_wA_15 : wA_15.all goodWord = true := by decide +kernel
theorem gd_wA_16 : wA_16.all goodWord = true := by decide +kernel
theorem gd_wA_17 : wA_17.all goodWord = true := by decide +kernel
theorem gd_wA_18 : wA_18.all goodWord = true := by decide +kernel
theorem gd_wA_19 : wA_19.all goodWord = true := by decide +kernel
theorem gd_wA_20 : wA_20.all goodWord = true := by decide +kernel
theorem gd_wA_21 : wA_21.all goodWord = true := by decide +kernel
theorem gd_wA_22 : wA_22.all goodWord = true := by decide +kernel
theorem gd_wA_23 : wA_23.all goodWord = true := by decide +kernel
theorem gd_wA_24 : wA_24.all goodWord = true := by decide +kernel
theorem gd_wA_25 : wA_25.all goodWord = true := by decide +kernel
theorem gd_wA_26 : wA_26.all goodWord = true := by decide +kernel
theorem gd_wA_27 : wA_27.all goodWord = true := by decide +kernel
theorem gd_wsX50 : wsX50.all goodWord = true := by decide +kernel
theorem gd_wsX70 : wsX70.all goodWord = true := by decide +kernel
theorem gd_wsX00 : wsX00.all goodWord = true := by decide +kernel
theorem gd_wsX10 : wsX10.all goodWord = true := by decide +kernel
theorem gd_wsX20 : wsX20.all goodWord = true := by decide +kernel
theorem gd_wsX40 : wsX40.all goodWord = true := by decide +kernel
theorem gd_wsX80 : wsX80.all goodWord = true := by decide +kernel
theorem gd_wsX30 : wsX30.all goodWord = true := by decide +kernel
theorem gd_wsX60 : wsX60.all goodWord = true := by decide +kernel
theorem gd_wsX90 : wsX90.all goodWord = true := by decide +kernel
theorem gd_wsX100 : wsX100.all goodWord = true := by decide +kernel
theorem wAll_good : ∀ w ∈ wAll, goodWord w = true := List.forall_mem_append.mpr ⟨fun w h => List.all_eq_true.mp gd_wA_0 w h, List.forall_mem_append.mpr ⟨fun w h => List.all_eq_true.mp gd_wA_1 w h, List.forall_mem_append.mpr ⟨fun w h => List.all_eq_true.mp gd_wA_2 w h, List.forall_mem_append.mpr ⟨fun w h => List.all_eq_true.mp gd_wA_3 w h, List.forall_mem_append.mpr ⟨fun w h => List.all_eq_true.mp gd_wA_4 w h, List.forall_mem_append.mpr ⟨fun w h => List.all_eq_true.mp gd_wA_5 w h, List.forall_mem_append.mpr ⟨fun w h => List.all_eq_true.mp gd_wA_6 w h, List.forall_mem_append.mpr ⟨fun w h => List.all_eq_true.mp gd_wA_7 w h, List.forall_mem_append.mpr ⟨fun w h => List.all_eq_true.mp gd_wA_8 w h, List.forall_mem_append.mpr ⟨fun w h => List.all_eq_true.mp gd_wA_9 w h, List.forall_mem_append.mpr ⟨fun w h => List.all_eq_true.mp gd_wA_10 w h, List.forall_mem_append.mpr ⟨fun w h => List.all_eq_true.mp gd_wA_11 w h, List.forall_mem_append.mpr ⟨fun w h => List.all_eq_true.mp gd_wA_12 w h, List.forall_mem_append.mpr ⟨fun w h => List.all_eq_true.mp gd_wA_13 w h, List.forall_mem_append.mpr ⟨fun w h => List.all_eq_true.mp gd_wA_14 w h, List.forall_mem_append.mpr ⟨fun w h => List.all_eq_true.mp gd_wA_15 w h, List.forall_mem_append.mpr ⟨fun w h => List.all_eq_true.mp gd_wA_16 w h, List.forall_mem_append.mpr ⟨fun w h => List.all_eq_true.mp gd_wA_17 w h, List.forall_mem_append.mpr ⟨fun w h => List.all_eq_true.mp gd_wA_18 w h, List.forall_mem_append.mpr ⟨fun w h => List.all_eq_true.mp gd_wA_19 w h, List.forall_mem_append.mpr ⟨fun w h => List.all_eq_true.mp gd_wA_20 w h, List.forall_mem_append.mpr ⟨fun w h => List.all_eq_true.mp gd_wA_21 w h, List.forall_mem_append.mpr ⟨fun w h => List.all_eq_true.mp gd_wA_22 w h, List.forall_mem_append.mpr ⟨fun w h => List.all_eq_true.mp gd_wA_23 w h, List.forall_mem_append.mpr ⟨fun w h => List.all_eq_true.mp gd_wA_24 w h, List.forall_mem_append.mpr ⟨fun w h => List.all_eq_true.mp gd_wA_25 w h, List.forall_mem_append.mpr ⟨fun w h => List.all_eq_true.mp gd_wA_26 w h, List.forall_mem_append.mpr ⟨fun w h => List.all_eq_true.mp gd_wA_27 w h, List.forall_mem_append.mpr ⟨fun w h => List.all_eq_true.mp gd_wsX50 w h, List.forall_mem_append.mpr ⟨fun w h => List.all_eq_true.mp gd_wsX70 w h, List.forall_mem_append.mpr ⟨fun w h => List.all_eq_true.mp gd_wsX00 w h, List.forall_mem_append.mpr ⟨fun w h => List.all_eq_true.mp gd_wsX10 w h, List.forall_mem_append.mpr ⟨fun w h => List.all_eq_true.mp gd_wsX20 w h, List.forall_mem_append.mpr ⟨fun w h => List.all_eq_true.mp gd_wsX40 w h, List.forall_mem_append.mpr ⟨fun w h => List.all_eq_true.mp gd_wsX80 w h, List.forall_mem_append.mpr ⟨fun w h => List.all_eq_true.mp gd_wsX30 w h, List.forall_mem_append.mpr ⟨fun w h => List.all_eq_true.mp gd_wsX60 w h, List.forall_mem_append.mpr ⟨fun w h => List.all_eq_true.mp gd_wsX90 w h, fun w h => List.all_eq_true.mp gd_wsX100 w h⟩⟩⟩⟩⟩⟩⟩⟩⟩⟩⟩⟩⟩⟩⟩⟩⟩⟩⟩⟩⟩⟩⟩⟩⟩⟩⟩⟩⟩⟩⟩⟩⟩⟩⟩⟩⟩⟩
theorem gA {y : MethodName} {c : ByteArray} {n : Nat} {ret : Option FieldType} (h : Cond.code y c n ret ∈ wAll) : GoodIn wAll (Cond.code y c n ret :: wAll) := fun w hw => (List.mem_cons.mp hw).elim (fun e => by subst e; exact ⟨h, good_of_word (wAll_good _ h)⟩) (fun h => ⟨h, good_of_word (wAll_good w h)⟩)
