def wA_0 : List Cond := [Cond.fieldLink RX7 43 "CardBowl$Town" "houses" "I", Cond.code yX7_has cX7_has 2 (some .boolean), Cond.initialized RX7, Cond.methodLink RX7 61 yX7_has, Cond.instanceMethod yX7_has, Cond.selects RX7 yX7_has yX7_has, Cond.code yX7_hasPair cX7_hasPair 3 (some .boolean), Cond.fieldLink RX7 34 "CardBowl$Town" "came" "[I", Cond.code yX7_isThere cX7_isThere 3 (some .boolean), Cond.fieldLink RX7 46 "CardBowl$Town" "fresh" "I", Cond.code yX7_isNew cX7_isNew 3 (some .boolean), Cond.fieldLink RX7 37 "CardBowl$Town" "bride" "[I", Cond.code yX7_waits cX7_waits 3 (some .boolean), Cond.fieldLink RX7 15 "CardBowl$Town" "x" "[I", Cond.methodLink RX7 65 Lib.Math.abs.name, Cond.static Lib.Math.abs.name, Cond.initialized "java/lang/Math", Cond.code Lib.Math.abs.name Lib.Math.abs.code 1 (some .int), Cond.fieldLink RX7 19 "CardBowl$Town" "y" "[I", Cond.code yX7_minutes cX7_minutes 3 (some .int), Cond.fieldLink RX1 30 "CardBowl$Debts" "kinds" "[I", Cond.code yX1_kindsOf cX1_kindsOf 3 (some .int), Cond.fieldLink RX1 33 "CardBowl$Debts" "size" "I", Cond.fieldLink RX1 21 "CardBowl$Debts" "due" "[I"]
def wA_1 : List Cond := [Cond.code yX1_overdue cX1_overdue 4 (some .int), Cond.fieldLink RX1 15 "CardBowl$Debts" "creditor" "[I", Cond.code yX1_overdueTo cX1_overdueTo 5 (some .int), Cond.fieldLink RX1 27 "CardBowl$Debts" "open" "[I", Cond.fieldLink RX1 9 "CardBowl$Debts" "debtor" "[I", Cond.code yX1_nth cX1_nth 5 (some .int), Cond.fieldLink RX1 18 "CardBowl$Debts" "kind" "[I", Cond.fieldLink RX1 24 "CardBowl$Debts" "came" "[I", Cond.code yX1_add cX1_add 6 none, Cond.code yX1_move cX1_move 3 none, Cond.fieldLink RX2 24 "CardBowl$Deeds" "size" "I", Cond.code yX2_isFull cX2_isFull 1 (some .boolean), Cond.fieldLink RX2 9 "CardBowl$Deeds" "who" "[I", Cond.fieldLink RX2 15 "CardBowl$Deeds" "whom" "[I", Cond.fieldLink RX2 18 "CardBowl$Deeds" "what" "[I", Cond.fieldLink RX2 21 "CardBowl$Deeds" "day" "[I", Cond.code yX2_add cX2_add 5 none, Cond.code yX2_callsBy cX2_callsBy 4 (some .int), Cond.code yX2_callsTo cX2_callsTo 4 (some .int), Cond.fieldLink RX5 23 "CardBowl$Slot" "size" "I", Cond.fieldLink RX5 9 "CardBowl$Slot" "numbers" "[J", Cond.constantLong RX5 32 (16), Cond.code yX5_small cX5_small 2 (some .int), Cond.code yX5_hasRun cX5_hasRun 3 (some .boolean)]
def wA_2 : List Cond := [Cond.fieldLink RX0 33 "CardBowl$Code" "lines" "I", Cond.fieldLink RX0 37 "CardBowl$Code" "used" "I", Cond.code yX0_clear cX0_clear 1 none, Cond.fieldLink RX0 27 "CardBowl$Code" "tests" "[I", Cond.code yX0_put cX0_put 2 none, Cond.fieldLink RX0 30 "CardBowl$Code" "facts" "[I", Cond.code yX0_partOf cX0_partOf 2 (some .int)]
def wAll : List Cond := wA_0 ++ (wA_1 ++ (wA_2 ++ (wsX00 ++ (wsX10 ++ (wsX20 ++ (wsX30 ++ (wsX40 ++ (wsX50 ++ (wsX60 ++ (wsX70 ++ (wsX80 ++ (wsX90 ++ (wsX100)))))))))))))
theorem inA_wA_0 : ∀ w ∈ wA_0, w ∈ wAll := fun w h => List.mem_append_left _ h
theorem inA_wA_1 : ∀ w ∈ wA_1, w ∈ wAll := fun w h => List.mem_append_right _ (List.mem_append_left _ h)
theorem inA_wA_2 : ∀ w ∈ wA_2, w ∈ wAll := fun w h => List.mem_append_right _ (List.mem_append_right _ (List.mem_append_left _ h))
theorem inA_wsX00 : ∀ w ∈ wsX00, w ∈ wAll := fun w h => List.mem_append_right _ (List.mem_append_right _ (List.mem_append_right _ (List.mem_append_left _ h)))
theorem inA_wsX10 : ∀ w ∈ wsX10, w ∈ wAll := fun w h => List.mem_append_right _ (List.mem_append_right _ (List.mem_append_right _ (List.mem_append_right _ (List.mem_append_left _ h))))
theorem inA_wsX20 : ∀ w ∈ wsX20, w ∈ wAll := fun w h => List.mem_append_right _ (List.mem_append_right _ (List.mem_append_right _ (List.mem_append_right _ (List.mem_append_right _ (List.mem_append_left _ h)))))
theorem inA_wsX30 : ∀ w ∈ wsX30, w ∈ wAll := fun w h => List.mem_append_right _ (List.mem_append_right _ (List.mem_append_right _ (List.mem_append_right _ (List.mem_append_right _ (List.mem_append_right _ (List.mem_append_left _ h))))))
theorem inA_wsX40 : ∀ w ∈ wsX40, w ∈ wAll := fun w h => List.mem_append_right _ (List.mem_append_right _ (List.mem_append_right _ (List.mem_append_right _ (List.mem_append_right _ (List.mem_append_right _ (List.mem_append_right _ (List.mem_append_left _ h)))))))
theorem inA_wsX50 : ∀ w ∈ wsX50, w ∈ wAll := fun w h => List.mem_append_right _ (List.mem_append_right _ (List.mem_append_right _ (List.mem_append_right _ (List.mem_append_right _ (List.mem_append_right _ (List.mem_append_right _ (List.mem_append_right _ (List.mem_append_left _ h))))))))
theorem inA_wsX60 : ∀ w ∈ wsX60, w ∈ wAll := fun w h => List.mem_append_right _ (List.mem_append_right _ (List.mem_append_right _ (List.mem_append_right _ (List.mem_append_right _ (List.mem_append_right _ (List.mem_append_right _ (List.mem_append_right _ (List.mem_append_right _ (List.mem_append_left _ h)))))))))
theorem inA_wsX70 : ∀ w ∈ wsX70, w ∈ wAll := fun w h => List.mem_append_right _ (List.mem_append_right _ (List.mem_append_right _ (List.mem_append_right _ (List.mem_append_right _ (List.mem_append_right _ (List.mem_append_right _ (List.mem_append_right _ (List.mem_append_right _ (List.mem_append_right _ (List.mem_append_left _ h))))))))))
theorem inA_wsX80 : ∀ w ∈ wsX80, w ∈ wAll := fun w h => List.mem_append_right _ (List.mem_append_right _ (List.mem_append_right _ (List.mem_append_right _ (List.mem_append_right _ (List.mem_append_right _ (List.mem_append_right _ (List.mem_append_right _ (List.mem_append_right _ (List.mem_append_right _ (List.mem_append_right _ (List.mem_append_left _ h)))))))))))
theorem inA_wsX90 : ∀ w ∈ wsX90, w ∈ wAll := fun w h => List.mem_append_right _ (List.mem_append_right _ (List.mem_append_right _ (List.mem_append_right _ (List.mem_append_right _ (List.mem_append_right _ (List.mem_append_right _ (List.mem_append_right _ (List.mem_append_right _ (List.mem_append_right _ (List.mem_append_right _ (List.mem_append_right _ (List.mem_append_left _ h))))))))))))
theorem inA_wsX100 : ∀ w ∈ wsX100, w ∈ wAll := fun w h => List.mem_append_right _ (List.mem_append_right _ (List.mem_append_right _ (List.mem_append_right _ (List.mem_append_right _ (List.mem_append_right _ (List.mem_append_right _ (List.mem_append_right _ (List.mem_append_right _ (List.mem_append_right _ (List.mem_append_right _ (List.mem_append_right _ (List.mem_append_right _ (h)))))))))))))
theorem m_0 : Cond.fieldLink RX7 43 "CardBowl$Town" "houses" "I" ∈ wAll := inA_wA_0 _ (List.mem_of_getElem? (i := 0) rfl)
theorem m_1 : Cond.code yX7_has cX7_has 2 (some .boolean) ∈ wAll := inA_wA_0 _ (List.mem_of_getElem? (i := 1) rfl)
theorem m_2 : Cond.initialized RX7 ∈ wAll := inA_wA_0 _ (List.mem_of_getElem? (i := 2) rfl)
theorem m_3 : Cond.methodLink RX7 61 yX7_has ∈ wAll := inA_wA_0 _ (List.mem_of_getElem? (i := 3) rfl)
theorem m_4 : Cond.instanceMethod yX7_has ∈ wAll := inA_wA_0 _ (List.mem_of_getElem? (i := 4) rfl)
theorem m_5 : Cond.selects RX7 yX7_has yX7_has ∈ wAll := inA_wA_0 _ (List.mem_of_getElem? (i := 5) rfl)
theorem m_6 : Cond.code yX7_hasPair cX7_hasPair 3 (some .boolean) ∈ wAll := inA_wA_0 _ (List.mem_of_getElem? (i := 6) rfl)
theorem m_7 : Cond.fieldLink RX7 34 "CardBowl$Town" "came" "[I" ∈ wAll := inA_wA_0 _ (List.mem_of_getElem? (i := 7) rfl)
theorem m_8 : Cond.code yX7_isThere cX7_isThere 3 (some .boolean) ∈ wAll := inA_wA_0 _ (List.mem_of_getElem? (i := 8) rfl)
theorem m_9 : Cond.fieldLink RX7 46 "CardBowl$Town" "fresh" "I" ∈ wAll := inA_wA_0 _ (List.mem_of_getElem? (i := 9) rfl)
theorem m_10 : Cond.code yX7_isNew cX7_isNew 3 (some .boolean) ∈ wAll := inA_wA_0 _ (List.mem_of_getElem? (i := 10) rfl)
theorem m_11 : Cond.fieldLink RX7 37 "CardBowl$Town" "bride" "[I" ∈ wAll := inA_wA_0 _ (List.mem_of_getElem? (i := 11) rfl)
theorem m_12 : Cond.code yX7_waits cX7_waits 3 (some .boolean) ∈ wAll := inA_wA_0 _ (List.mem_of_getElem? (i := 12) rfl)
theorem m_13 : Cond.fieldLink RX7 15 "CardBowl$Town" "x" "[I" ∈ wAll := inA_wA_0 _ (List.mem_of_getElem? (i := 13) rfl)
theorem m_14 : Cond.methodLink RX7 65 Lib.Math.abs.name ∈ wAll := inA_wA_0 _ (List.mem_of_getElem? (i := 14) rfl)
theorem m_15 : Cond.static Lib.Math.abs.name ∈ wAll := inA_wA_0 _ (List.mem_of_getElem? (i := 15) rfl)
theorem m_16 : Cond.initialized "java/lang/Math" ∈ wAll := inA_wA_0 _ (List.mem_of_getElem? (i := 16) rfl)
theorem m_17 : Cond.code Lib.Math.abs.name Lib.Math.abs.code 1 (some .int) ∈ wAll := inA_wA_0 _ (List.mem_of_getElem? (i := 17) rfl)
theorem m_18 : Cond.fieldLink RX7 19 "CardBowl$Town" "y" "[I" ∈ wAll := inA_wA_0 _ (List.mem_of_getElem? (i := 18) rfl)
theorem m_19 : Cond.code yX7_minutes cX7_minutes 3 (some .int) ∈ wAll := inA_wA_0 _ (List.mem_of_getElem? (i := 19) rfl)
theorem m_20 : Cond.fieldLink RX1 30 "CardBowl$Debts" "kinds" "[I" ∈ wAll := inA_wA_0 _ (List.mem_of_getElem? (i := 20) rfl)
theorem m_21 : Cond.code yX1_kindsOf cX1_kindsOf 3 (some .int) ∈ wAll := inA_wA_0 _ (List.mem_of_getElem? (i := 21) rfl)
theorem m_22 : Cond.fieldLink RX1 33 "CardBowl$Debts" "size" "I" ∈ wAll := inA_wA_0 _ (List.mem_of_getElem? (i := 22) rfl)
theorem m_23 : Cond.fieldLink RX1 21 "CardBowl$Debts" "due" "[I" ∈ wAll := inA_wA_0 _ (List.mem_of_getElem? (i := 23) rfl)
theorem m_24 : Cond.code yX1_overdue cX1_overdue 4 (some .int) ∈ wAll := inA_wA_1 _ (List.mem_of_getElem? (i := 0) rfl)
theorem m_25 : Cond.fieldLink RX1 15 "CardBowl$Debts" "creditor" "[I" ∈ wAll := inA_wA_1 _ (List.mem_of_getElem? (i := 1) rfl)
theorem m_26 : Cond.code yX1_overdueTo cX1_overdueTo 5 (some .int) ∈ wAll := inA_wA_1 _ (List.mem_of_getElem? (i := 2) rfl)
theorem m_27 : Cond.fieldLink RX1 27 "CardBowl$Debts" "open" "[I" ∈ wAll := inA_wA_1 _ (List.mem_of_getElem? (i := 3) rfl)
theorem m_28 : Cond.fieldLink RX1 9 "CardBowl$Debts" "debtor" "[I" ∈ wAll := inA_wA_1 _ (List.mem_of_getElem? (i := 4) rfl)
theorem m_29 : Cond.code yX1_nth cX1_nth 5 (some .int) ∈ wAll := inA_wA_1 _ (List.mem_of_getElem? (i := 5) rfl)
theorem m_30 : Cond.fieldLink RX1 18 "CardBowl$Debts" "kind" "[I" ∈ wAll := inA_wA_1 _ (List.mem_of_getElem? (i := 6) rfl)
theorem m_31 : Cond.fieldLink RX1 24 "CardBowl$Debts" "came" "[I" ∈ wAll := inA_wA_1 _ (List.mem_of_getElem? (i := 7) rfl)
theorem m_32 : Cond.code yX1_add cX1_add 6 none ∈ wAll := inA_wA_1 _ (List.mem_of_getElem? (i := 8) rfl)
theorem m_33 : Cond.code yX1_move cX1_move 3 none ∈ wAll := inA_wA_1 _ (List.mem_of_getElem? (i := 9) rfl)
theorem m_34 : Cond.fieldLink RX2 24 "CardBowl$Deeds" "size" "I" ∈ wAll := inA_wA_1 _ (List.mem_of_getElem? (i := 10) rfl)
theorem m_35 : Cond.code yX2_isFull cX2_isFull 1 (some .boolean) ∈ wAll := inA_wA_1 _ (List.mem_of_getElem? (i := 11) rfl)
theorem m_36 : Cond.fieldLink RX2 9 "CardBowl$Deeds" "who" "[I" ∈ wAll := inA_wA_1 _ (List.mem_of_getElem? (i := 12) rfl)
theorem m_37 : Cond.fieldLink RX2 15 "CardBowl$Deeds" "whom" "[I" ∈ wAll := inA_wA_1 _ (List.mem_of_getElem? (i := 13) rfl)
theorem m_38 : Cond.fieldLink RX2 18 "CardBowl$Deeds" "what" "[I" ∈ wAll := inA_wA_1 _ (List.mem_of_getElem? (i := 14) rfl)
theorem m_39 : Cond.fieldLink RX2 21 "CardBowl$Deeds" "day" "[I" ∈ wAll := inA_wA_1 _ (List.mem_of_getElem? (i := 15) rfl)
theorem m_40 : Cond.code yX2_add cX2_add 5 none ∈ wAll := inA_wA_1 _ (List.mem_of_getElem? (i := 16) rfl)
theorem m_41 : Cond.code yX2_callsBy cX2_callsBy 4 (some .int) ∈ wAll := inA_wA_1 _ (List.mem_of_getElem? (i := 17) rfl)
theorem m_42 : Cond.code yX2_callsTo cX2_callsTo 4 (some .int) ∈ wAll := inA_wA_1 _ (List.mem_of_getElem? (i := 18) rfl)
theorem m_43 : Cond.fieldLink RX5 23 "CardBowl$Slot" "size" "I" ∈ wAll := inA_wA_1 _ (List.mem_of_getElem? (i := 19) rfl)
theorem m_44 : Cond.fieldLink RX5 9 "CardBowl$Slot" "numbers" "[J" ∈ wAll := inA_wA_1 _ (List.mem_of_getElem? (i := 20) rfl)
theorem m_45 : Cond.constantLong RX5 32 (16) ∈ wAll := inA_wA_1 _ (List.mem_of_getElem? (i := 21) rfl)
theorem m_46 : Cond.code yX5_small cX5_small 2 (some .int) ∈ wAll := inA_wA_1 _ (List.mem_of_getElem? (i := 22) rfl)
theorem m_47 : Cond.code yX5_hasRun cX5_hasRun 3 (some .boolean) ∈ wAll := inA_wA_1 _ (List.mem_of_getElem? (i := 23) rfl)
theorem m_48 : Cond.fieldLink RX0 33 "CardBowl$Code" "lines" "I" ∈ wAll := inA_wA_2 _ (List.mem_of_getElem? (i := 0) rfl)
theorem m_49 : Cond.fieldLink RX0 37 "CardBowl$Code" "used" "I" ∈ wAll := inA_wA_2 _ (List.mem_of_getElem? (i := 1) rfl)
theorem m_50 : Cond.code yX0_clear cX0_clear 1 none ∈ wAll := inA_wA_2 _ (List.mem_of_getElem? (i := 2) rfl)
theorem m_51 : Cond.fieldLink RX0 27 "CardBowl$Code" "tests" "[I" ∈ wAll := inA_wA_2 _ (List.mem_of_getElem? (i := 3) rfl)
theorem m_52 : Cond.code yX0_put cX0_put 2 none ∈ wAll := inA_wA_2 _ (List.mem_of_getElem? (i := 4) rfl)
theorem m_53 : Cond.fieldLink RX0 30 "CardBowl$Code" "facts" "[I" ∈ wAll := inA_wA_2 _ (List.mem_of_getElem? (i := 5) rfl)
theorem m_54 : Cond.code yX0_partOf cX0_partOf 2 (some .int) ∈ wAll := inA_wA_2 _ (List.mem_of_getElem? (i := 6) rfl)
theorem tb_1 : ∀ w ∈ tables_1_1, w ∈ lw_tbl := fun w h => List.mem_append_right _ (List.mem_append_left _ h)
theorem tb_2 : ∀ w ∈ tables_1_2, w ∈ lw_tbl := fun w h => List.mem_append_right _ (List.mem_append_right _ (List.mem_append_left _ h))
theorem tb_3 : ∀ w ∈ tables_1_3, w ∈ lw_tbl := fun w h => List.mem_append_right _ (List.mem_append_right _ (List.mem_append_right _ (List.mem_append_left _ h)))
theorem tb_4 : ∀ w ∈ tables_1_4, w ∈ lw_tbl := fun w h => List.mem_append_right _ (List.mem_append_right _ (List.mem_append_right _ (List.mem_append_right _ (List.mem_append_left _ h))))
theorem tb_5 : ∀ w ∈ tables_1_5, w ∈ lw_tbl := fun w h => List.mem_append_right _ (List.mem_append_right _ (List.mem_append_right _ (List.mem_append_right _ (List.mem_append_right _ (List.mem_append_left _ h)))))
theorem tb_6 : ∀ w ∈ tables_1_6, w ∈ lw_tbl := fun w h => List.mem_append_right _ (List.mem_append_right _ (List.mem_append_right _ (List.mem_append_right _ (List.mem_append_right _ (List.mem_append_right _ (List.mem_append_left _ h))))))
theorem tb_7 : ∀ w ∈ tables_1_7, w ∈ lw_tbl := fun w h => List.mem_append_right _ (List.mem_append_right _ (List.mem_append_right _ (List.mem_append_right _ (List.mem_append_right _ (List.mem_append_right _ (List.mem_append_right _ (List.mem_append_left _ h)))))))
theorem tb_8 : ∀ w ∈ tables_1_8, w ∈ lw_tbl := fun w h => List.mem_append_right _ (List.mem_append_right _ (List.mem_append_right _ (List.mem_append_right _ (List.mem_append_right _ (List.mem_append_right _ (List.mem_append_right _ (List.mem_append_right _ (h))))))))
theorem mem_r {big ws : List Cond} (ps : List Nat) (hp : ws = ps.filterMap (fun i => big[i]?)) : ∀ w ∈ ws, w ∈ big := by
  intro w hw
  rw [hp] at hw
  obtain ⟨i, -, hi⟩ := List.mem_filterMap.mp hw
  exact List.mem_of_getElem? hi
set_option maxRecDepth 20000 in
theorem t_0 : Cond.fieldLink RX7 43 "CardBowl$Town" "houses" "I" ∈ lw_tbl := tb_1 _ (List.mem_of_getElem? (i := 40) (by decide +kernel))
set_option maxRecDepth 20000 in
theorem t_1 : Cond.code yX7_has cX7_has 2 (some .boolean) ∈ lw_tbl := tb_3 _ (List.mem_of_getElem? (i := 199) rfl)
set_option maxRecDepth 20000 in
theorem t_2 : Cond.initialized RX7 ∈ lw_tbl := tb_1 _ (List.mem_of_getElem? (i := 3) (by decide +kernel))
set_option maxRecDepth 20000 in
theorem t_3 : Cond.methodLink RX7 61 yX7_has ∈ lw_tbl := tb_3 _ (List.mem_of_getElem? (i := 196) (by decide +kernel))
set_option maxRecDepth 20000 in
theorem t_4 : Cond.instanceMethod yX7_has ∈ lw_tbl := tb_3 _ (List.mem_of_getElem? (i := 197) (by decide +kernel))
set_option maxRecDepth 20000 in
theorem t_5 : Cond.selects RX7 yX7_has yX7_has ∈ lw_tbl := tb_3 _ (List.mem_of_getElem? (i := 198) (by decide +kernel))
set_option maxRecDepth 20000 in
theorem t_6 : Cond.code yX7_hasPair cX7_hasPair 3 (some .boolean) ∈ lw_tbl := tb_3 _ (List.mem_of_getElem? (i := 195) rfl)
set_option maxRecDepth 20000 in
theorem t_7 : Cond.fieldLink RX7 34 "CardBowl$Town" "came" "[I" ∈ lw_tbl := tb_1 _ (List.mem_of_getElem? (i := 76) (by decide +kernel))
set_option maxRecDepth 20000 in
theorem t_8 : Cond.code yX7_isThere cX7_isThere 3 (some .boolean) ∈ lw_tbl := tb_3 _ (List.mem_of_getElem? (i := 207) rfl)
set_option maxRecDepth 20000 in
theorem t_9 : Cond.fieldLink RX7 46 "CardBowl$Town" "fresh" "I" ∈ lw_tbl := tb_1 _ (List.mem_of_getElem? (i := 45) (by decide +kernel))
set_option maxRecDepth 20000 in
theorem t_10 : Cond.code yX7_isNew cX7_isNew 3 (some .boolean) ∈ lw_tbl := tb_3 _ (List.mem_of_getElem? (i := 219) rfl)
set_option maxRecDepth 20000 in
theorem t_11 : Cond.fieldLink RX7 37 "CardBowl$Town" "bride" "[I" ∈ lw_tbl := tb_1 _ (List.mem_of_getElem? (i := 79) (by decide +kernel))
set_option maxRecDepth 20000 in
theorem t_12 : Cond.code yX7_waits cX7_waits 3 (some .boolean) ∈ lw_tbl := tb_3 _ (List.mem_of_getElem? (i := 229) rfl)
set_option maxRecDepth 20000 in
theorem t_13 : Cond.fieldLink RX7 15 "CardBowl$Town" "x" "[I" ∈ lw_tbl := tb_1 _ (List.mem_of_getElem? (i := 53) (by decide +kernel))
set_option maxRecDepth 20000 in
theorem t_14 : Cond.methodLink RX7 65 Lib.Math.abs.name ∈ lw_tbl := tb_4 _ (List.mem_of_getElem? (i := 144) (by decide +kernel))
set_option maxRecDepth 20000 in
theorem t_15 : Cond.static Lib.Math.abs.name ∈ lw_tbl := tb_4 _ (List.mem_of_getElem? (i := 145) (by decide +kernel))
set_option maxRecDepth 20000 in
theorem t_16 : Cond.initialized "java/lang/Math" ∈ lw_tbl := tb_1 _ (List.mem_of_getElem? (i := 12) (by decide +kernel))
set_option maxRecDepth 20000 in
theorem t_17 : Cond.code Lib.Math.abs.name Lib.Math.abs.code 1 (some .int) ∈ lw_tbl := tb_4 _ (List.mem_of_getElem? (i := 146) rfl)
set_option maxRecDepth 20000 in
theorem t_18 : Cond.fieldLink RX7 19 "CardBowl$Town" "y" "[I" ∈ lw_tbl := tb_1 _ (List.mem_of_getElem? (i := 56) (by decide +kernel))
set_option maxRecDepth 20000 in
theorem t_19 : Cond.code yX7_minutes cX7_minutes 3 (some .int) ∈ lw_tbl := tb_4 _ (List.mem_of_getElem? (i := 143) rfl)
set_option maxRecDepth 20000 in
theorem t_20 : Cond.fieldLink RX1 30 "CardBowl$Debts" "kinds" "[I" ∈ lw_tbl := tb_1 _ (List.mem_of_getElem? (i := 225) (by decide +kernel))
set_option maxRecDepth 20000 in
theorem t_21 : Cond.code yX1_kindsOf cX1_kindsOf 3 (some .int) ∈ lw_tbl := tb_4 _ (List.mem_of_getElem? (i := 13) rfl)
set_option maxRecDepth 20000 in
theorem t_22 : Cond.fieldLink RX1 33 "CardBowl$Debts" "size" "I" ∈ lw_tbl := tb_1 _ (List.mem_of_getElem? (i := 209) (by decide +kernel))
set_option maxRecDepth 20000 in
theorem t_23 : Cond.fieldLink RX1 21 "CardBowl$Debts" "due" "[I" ∈ lw_tbl := tb_1 _ (List.mem_of_getElem? (i := 217) (by decide +kernel))
set_option maxRecDepth 20000 in
theorem t_24 : Cond.code yX1_overdue cX1_overdue 4 (some .int) ∈ lw_tbl := tb_5 _ (List.mem_of_getElem? (i := 112) rfl)
set_option maxRecDepth 20000 in
theorem t_25 : Cond.fieldLink RX1 15 "CardBowl$Debts" "creditor" "[I" ∈ lw_tbl := tb_1 _ (List.mem_of_getElem? (i := 212) (by decide +kernel))
set_option maxRecDepth 20000 in
theorem t_26 : Cond.code yX1_overdueTo cX1_overdueTo 5 (some .int) ∈ lw_tbl := tb_4 _ (List.mem_of_getElem? (i := 103) rfl)
set_option maxRecDepth 20000 in
theorem t_27 : Cond.fieldLink RX1 27 "CardBowl$Debts" "open" "[I" ∈ lw_tbl := tb_1 _ (List.mem_of_getElem? (i := 222) (by decide +kernel))
set_option maxRecDepth 20000 in
theorem t_28 : Cond.fieldLink RX1 9 "CardBowl$Debts" "debtor" "[I" ∈ lw_tbl := tb_1 _ (List.mem_of_getElem? (i := 211) (by decide +kernel))
set_option maxRecDepth 20000 in
theorem t_29 : Cond.code yX1_nth cX1_nth 5 (some .int) ∈ lw_tbl := tb_4 _ (List.mem_of_getElem? (i := 95) rfl)
set_option maxRecDepth 20000 in
theorem t_30 : Cond.fieldLink RX1 18 "CardBowl$Debts" "kind" "[I" ∈ lw_tbl := tb_1 _ (List.mem_of_getElem? (i := 215) (by decide +kernel))
set_option maxRecDepth 20000 in
theorem t_31 : Cond.fieldLink RX1 24 "CardBowl$Debts" "came" "[I" ∈ lw_tbl := tb_1 _ (List.mem_of_getElem? (i := 220) (by decide +kernel))
set_option maxRecDepth 20000 in
theorem t_32 : Cond.code yX1_add cX1_add 6 none ∈ lw_tbl := tb_4 _ (List.mem_of_getElem? (i := 48) rfl)
set_option maxRecDepth 20000 in
theorem t_33 : Cond.code yX1_move cX1_move 3 none ∈ lw_tbl := tb_4 _ (List.mem_of_getElem? (i := 17) rfl)
set_option maxRecDepth 20000 in
theorem t_34 : Cond.fieldLink RX2 24 "CardBowl$Deeds" "size" "I" ∈ lw_tbl := tb_2 _ (List.mem_of_getElem? (i := 9) (by decide +kernel))
set_option maxRecDepth 20000 in
theorem t_35 : Cond.code yX2_isFull cX2_isFull 1 (some .boolean) ∈ lw_tbl := tb_3 _ (List.mem_of_getElem? (i := 237) rfl)
set_option maxRecDepth 20000 in
theorem t_36 : Cond.fieldLink RX2 9 "CardBowl$Deeds" "who" "[I" ∈ lw_tbl := tb_2 _ (List.mem_of_getElem? (i := 12) (by decide +kernel))
set_option maxRecDepth 20000 in
theorem t_37 : Cond.fieldLink RX2 15 "CardBowl$Deeds" "whom" "[I" ∈ lw_tbl := tb_2 _ (List.mem_of_getElem? (i := 14) (by decide +kernel))
set_option maxRecDepth 20000 in
theorem t_38 : Cond.fieldLink RX2 18 "CardBowl$Deeds" "what" "[I" ∈ lw_tbl := tb_2 _ (List.mem_of_getElem? (i := 16) (by decide +kernel))
set_option maxRecDepth 20000 in
theorem t_39 : Cond.fieldLink RX2 21 "CardBowl$Deeds" "day" "[I" ∈ lw_tbl := tb_2 _ (List.mem_of_getElem? (i := 18) (by decide +kernel))
set_option maxRecDepth 20000 in
theorem t_40 : Cond.code yX2_add cX2_add 5 none ∈ lw_tbl := tb_4 _ (List.mem_of_getElem? (i := 52) rfl)
set_option maxRecDepth 20000 in
theorem t_41 : Cond.code yX2_callsBy cX2_callsBy 4 (some .int) ∈ lw_tbl := tb_5 _ (List.mem_of_getElem? (i := 89) rfl)
set_option maxRecDepth 20000 in
theorem t_42 : Cond.code yX2_callsTo cX2_callsTo 4 (some .int) ∈ lw_tbl := tb_5 _ (List.mem_of_getElem? (i := 93) rfl)
set_option maxRecDepth 20000 in
theorem t_43 : Cond.fieldLink RX5 23 "CardBowl$Slot" "size" "I" ∈ lw_tbl := tb_2 _ (List.mem_of_getElem? (i := 188) (by decide +kernel))
set_option maxRecDepth 20000 in
theorem t_44 : Cond.fieldLink RX5 9 "CardBowl$Slot" "numbers" "[J" ∈ lw_tbl := tb_2 _ (List.mem_of_getElem? (i := 191) (by decide +kernel))
set_option maxRecDepth 20000 in
theorem t_45 : Cond.constantLong RX5 32 (16) ∈ lw_tbl := tb_4 _ (List.mem_of_getElem? (i := 75) (by decide +kernel))
set_option maxRecDepth 20000 in
theorem t_46 : Cond.code yX5_small cX5_small 2 (some .int) ∈ lw_tbl := tb_4 _ (List.mem_of_getElem? (i := 74) rfl)
set_option maxRecDepth 20000 in
theorem t_47 : Cond.code yX5_hasRun cX5_hasRun 3 (some .boolean) ∈ lw_tbl := tb_5 _ (List.mem_of_getElem? (i := 165) rfl)
set_option maxRecDepth 20000 in
theorem t_48 : Cond.fieldLink RX0 33 "CardBowl$Code" "lines" "I" ∈ lw_tbl := tb_1 _ (List.mem_of_getElem? (i := 117) (by decide +kernel))
set_option maxRecDepth 20000 in
theorem t_49 : Cond.fieldLink RX0 37 "CardBowl$Code" "used" "I" ∈ lw_tbl := tb_1 _ (List.mem_of_getElem? (i := 120) (by decide +kernel))
set_option maxRecDepth 20000 in
theorem t_50 : Cond.code yX0_clear cX0_clear 1 none ∈ lw_tbl := tb_3 _ (List.mem_of_getElem? (i := 27) rfl)
set_option maxRecDepth 20000 in
theorem t_51 : Cond.fieldLink RX0 27 "CardBowl$Code" "tests" "[I" ∈ lw_tbl := tb_1 _ (List.mem_of_getElem? (i := 134) (by decide +kernel))
set_option maxRecDepth 20000 in
theorem t_52 : Cond.code yX0_put cX0_put 2 none ∈ lw_tbl := tb_3 _ (List.mem_of_getElem? (i := 126) rfl)
set_option maxRecDepth 20000 in
theorem t_53 : Cond.fieldLink RX0 30 "CardBowl$Code" "facts" "[I" ∈ lw_tbl := tb_1 _ (List.mem_of_getElem? (i := 135) (by decide +kernel))
set_option maxRecDepth 20000 in
theorem t_54 : Cond.code yX0_partOf cX0_partOf 2 (some .int) ∈ lw_tbl := tb_4 _ (List.mem_of_getElem? (i := 30) rfl)
theorem tA_0 : ∀ w ∈ wA_0, w ∈ lw_tbl := List.forall_mem_cons.mpr ⟨t_0, List.forall_mem_cons.mpr ⟨t_1, List.forall_mem_cons.mpr ⟨t_2, List.forall_mem_cons.mpr ⟨t_3, List.forall_mem_cons.mpr ⟨t_4, List.forall_mem_cons.mpr ⟨t_5, List.forall_mem_cons.mpr ⟨t_6, List.forall_mem_cons.mpr ⟨t_7, List.forall_mem_cons.mpr ⟨t_8, List.forall_mem_cons.mpr ⟨t_9, List.forall_mem_cons.mpr ⟨t_10, List.forall_mem_cons.mpr ⟨t_11, List.forall_mem_cons.mpr ⟨t_12, List.forall_mem_cons.mpr ⟨t_13, List.forall_mem_cons.mpr ⟨t_14, List.forall_mem_cons.mpr ⟨t_15, List.forall_mem_cons.mpr ⟨t_16, List.forall_mem_cons.mpr ⟨t_17, List.forall_mem_cons.mpr ⟨t_18, List.forall_mem_cons.mpr ⟨t_19, List.forall_mem_cons.mpr ⟨t_20, List.forall_mem_cons.mpr ⟨t_21, List.forall_mem_cons.mpr ⟨t_22, List.forall_mem_cons.mpr ⟨t_23, fun _ h => absurd h List.not_mem_nil⟩⟩⟩⟩⟩⟩⟩⟩⟩⟩⟩⟩⟩⟩⟩⟩⟩⟩⟩⟩⟩⟩⟩⟩
theorem tA_1 : ∀ w ∈ wA_1, w ∈ lw_tbl := List.forall_mem_cons.mpr ⟨t_24, List.forall_mem_cons.mpr ⟨t_25, List.forall_mem_cons.mpr ⟨t_26, List.forall_mem_cons.mpr ⟨t_27, List.forall_mem_cons.mpr ⟨t_28, List.forall_mem_cons.mpr ⟨t_29, List.forall_mem_cons.mpr ⟨t_30, List.forall_mem_cons.mpr ⟨t_31, List.forall_mem_cons.mpr ⟨t_32, List.forall_mem_cons.mpr ⟨t_33, List.forall_mem_cons.mpr ⟨t_34, List.forall_mem_cons.mpr ⟨t_35, List.forall_mem_cons.mpr ⟨t_36, List.forall_mem_cons.mpr ⟨t_37, List.forall_mem_cons.mpr ⟨t_38, List.forall_mem_cons.mpr ⟨t_39, List.forall_mem_cons.mpr ⟨t_40, List.forall_mem_cons.mpr ⟨t_41, List.forall_mem_cons.mpr ⟨t_42, List.forall_mem_cons.mpr ⟨t_43, List.forall_mem_cons.mpr ⟨t_44, List.forall_mem_cons.mpr ⟨t_45, List.forall_mem_cons.mpr ⟨t_46, List.forall_mem_cons.mpr ⟨t_47, fun _ h => absurd h List.not_mem_nil⟩⟩⟩⟩⟩⟩⟩⟩⟩⟩⟩⟩⟩⟩⟩⟩⟩⟩⟩⟩⟩⟩⟩⟩
theorem tA_2 : ∀ w ∈ wA_2, w ∈ lw_tbl := List.forall_mem_cons.mpr ⟨t_48, List.forall_mem_cons.mpr ⟨t_49, List.forall_mem_cons.mpr ⟨t_50, List.forall_mem_cons.mpr ⟨t_51, List.forall_mem_cons.mpr ⟨t_52, List.forall_mem_cons.mpr ⟨t_53, List.forall_mem_cons.mpr ⟨t_54, fun _ h => absurd h List.not_mem_nil⟩⟩⟩⟩⟩⟩⟩
set_option maxRecDepth 20000 in
theorem tU_X0 : ∀ w ∈ wsX00, w ∈ lw_tbl := fun w h => List.mem_append_right _ (mem_r (big := tables_1) [137, 139, 141, 143, 145, 147, 149, 151, 153, 155] (by decide +kernel) w h)
set_option maxRecDepth 20000 in
theorem tU_X1 : ∀ w ∈ wsX10, w ∈ lw_tbl := fun w h => List.mem_append_right _ (mem_r (big := tables_1) [226, 228, 230, 232, 234, 236, 238, 240] (by decide +kernel) w h)
set_option maxRecDepth 20000 in
theorem tU_X2 : ∀ w ∈ wsX20, w ∈ lw_tbl := fun w h => List.mem_append_right _ (mem_r (big := tables_1) [260, 262, 264, 266, 268] (by decide +kernel) w h)
set_option maxRecDepth 20000 in
theorem tU_X3 : ∀ w ∈ wsX30, w ∈ lw_tbl := fun w h => List.mem_append_right _ (mem_r (big := tables_1) [172, 174, 176, 178, 180, 182, 184, 186, 188, 190] (by decide +kernel) w h)
set_option maxRecDepth 20000 in
theorem tU_X4 : ∀ w ∈ wsX40, w ∈ lw_tbl := fun w h => List.mem_append_right _ (mem_r (big := tables_1) [339, 341, 343, 345, 347, 349, 351, 353, 355, 357, 359, 361, 363, 365, 367, 369, 371] (by decide +kernel) w h)
set_option maxRecDepth 20000 in
theorem tU_X5 : ∀ w ∈ wsX50, w ∈ lw_tbl := fun w h => List.mem_append_right _ (mem_r (big := tables_1) [433, 435, 437, 439] (by decide +kernel) w h)
set_option maxRecDepth 20000 in
theorem tU_X6 : ∀ w ∈ wsX60, w ∈ lw_tbl := fun w h => List.mem_append_right _ (mem_r (big := tables_1) [291, 293, 295, 297, 299, 301, 303, 305] (by decide +kernel) w h)
set_option maxRecDepth 20000 in
theorem tU_X7 : ∀ w ∈ wsX70, w ∈ lw_tbl := fun w h => List.mem_append_right _ (mem_r (big := tables_1) [84, 86, 88, 90, 92, 94, 96, 98, 100, 102, 104, 106] (by decide +kernel) w h)
set_option maxRecDepth 20000 in
theorem tU_X8 : ∀ w ∈ wsX80, w ∈ lw_tbl := fun w h => List.mem_append_right _ (mem_r (big := tables_1) [394, 396, 398, 400, 402, 404, 406, 408, 410, 412, 414] (by decide +kernel) w h)
set_option maxRecDepth 20000 in
theorem tU_X9 : ∀ w ∈ wsX90, w ∈ lw_tbl := fun w h => List.mem_append_right _ (mem_r (big := tables_1) [453, 455, 457, 459, 461, 463, 465, 467, 469, 471] (by decide +kernel) w h)
set_option maxRecDepth 20000 in
theorem tU_X10 : ∀ w ∈ wsX100, w ∈ lw_tbl := fun w h => List.mem_append_right _ (mem_r (big := tables_1) [1174, 1176, 1178, 1180, 1182, 1184, 1186, 1188, 1190, 1192, 1194, 1196, 1198, 1200, 1202, 1204, 1206, 1208, 1210, 1212, 1214, 1216, 1218, 1220, 1222, 1224, 1226, 1228, 1230, 1232, 1234, 1236, 1238, 1240, 1242, 1244, 1246, 1248, 1250, 1252, 1254] (by decide +kernel) w h)
theorem wAll_in : ∀ w ∈ wAll, w ∈ lw_tbl := List.forall_mem_append.mpr ⟨tA_0, List.forall_mem_append.mpr ⟨tA_1, List.forall_mem_append.mpr ⟨tA_2, List.forall_mem_append.mpr ⟨tU_X0, List.forall_mem_append.mpr ⟨tU_X1, List.forall_mem_append.mpr ⟨tU_X2, List.forall_mem_append.mpr ⟨tU_X3, List.forall_mem_append.mpr ⟨tU_X4, List.forall_mem_append.mpr ⟨tU_X5, List.forall_mem_append.mpr ⟨tU_X6, List.forall_mem_append.mpr ⟨tU_X7, List.forall_mem_append.mpr ⟨tU_X8, List.forall_mem_append.mpr ⟨tU_X9, tU_X10⟩⟩⟩⟩⟩⟩⟩⟩⟩⟩⟩⟩⟩
theorem gd_wA_0 : wA_0.all goodWord = true := by decide +kernel
theorem gd_wA_1 : wA_1.all goodWord = true := by decide +kernel
theorem gd_wA_2 : wA_2.all goodWord = true := by decide +kernel
theorem gd_wsX00 : wsX00.all goodWord = true := by decide +kernel
theorem gd_wsX10 : wsX10.all goodWord = true := by decide +kernel
theorem gd_wsX20 : wsX20.all goodWord = true := by decide +kernel
theorem gd_wsX30 : wsX30.all goodWord = true := by decide +kernel
theorem gd_wsX40 : wsX40.all goodWord = true := by decide +kernel
theorem gd_wsX50 : wsX50.all goodWord = true := by decide +kernel
theorem gd_wsX60 : wsX60.all goodWord = true := by decide +kernel
theorem gd_wsX70 : wsX70.all goodWord = true := by decide +kernel
theorem gd_wsX80 : wsX80.all goodWord = true := by decide +kernel
theorem gd_wsX90 : wsX90.all goodWord = true := by decide +kernel
theorem gd_wsX100 : wsX100.all goodWord = true := by decide +kernel
theorem wAll_good : ∀ w ∈ wAll, goodWord w = true := List.forall_mem_append.mpr ⟨fun w h => List.all_eq_true.mp gd_wA_0 w h, List.forall_mem_append.mpr ⟨fun w h => List.all_eq_true.mp gd_wA_1 w h, List.forall_mem_append.mpr ⟨fun w h => List.all_eq_true.mp gd_wA_2 w h, List.forall_mem_append.mpr ⟨fun w h => List.all_eq_true.mp gd_wsX00 w h, List.forall_mem_append.mpr ⟨fun w h => List.all_eq_true.mp gd_wsX10 w h, List.forall_mem_append.mpr ⟨fun w h => List.all_eq_true.mp gd_wsX20 w h, List.forall_mem_append.mpr ⟨fun w h => List.all_eq_true.mp gd_wsX30 w h, List.forall_mem_append.mpr ⟨fun w h => List.all_eq_true.mp gd_wsX40 w h, List.forall_mem_append.mpr ⟨fun w h => List.all_eq_true.mp gd_wsX50 w h, List.forall_mem_append.mpr ⟨fun w h => List.all_eq_true.mp gd_wsX60 w h, List.forall_mem_append.mpr ⟨fun w h => List.all_eq_true.mp gd_wsX70 w h, List.forall_mem_append.mpr ⟨fun w h => List.all_eq_true.mp gd_wsX80 w h, List.forall_mem_append.mpr ⟨fun w h => List.all_eq_true.mp gd_wsX90 w h, fun w h => List.all_eq_true.mp gd_wsX100 w h⟩⟩⟩⟩⟩⟩⟩⟩⟩⟩⟩⟩⟩
theorem gA {y : MethodName} {c : ByteArray} {n : Nat} {ret : Option FieldType} (h : Cond.code y c n ret ∈ wAll) : GoodIn wAll (Cond.code y c n ret :: wAll) := fun w hw => (List.mem_cons.mp hw).elim (fun e => by subst e; exact ⟨h, good_of_word (wAll_good _ h)⟩) (fun h => ⟨h, good_of_word (wAll_good w h)⟩)
