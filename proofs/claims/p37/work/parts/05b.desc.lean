theorem c9_J0 : RJ0 ≠ "java/lang/invoke/MethodHandle" ∧ RJ0 ≠ "java/lang/invoke/VarHandle" := by decide +kernel
theorem c9_J1 : RJ1 ≠ "java/lang/invoke/MethodHandle" ∧ RJ1 ≠ "java/lang/invoke/VarHandle" := by decide +kernel
theorem c9_J3 : RJ3 ≠ "java/lang/invoke/MethodHandle" ∧ RJ3 ≠ "java/lang/invoke/VarHandle" := by decide +kernel
theorem c9_J6 : RJ6 ≠ "java/lang/invoke/MethodHandle" ∧ RJ6 ≠ "java/lang/invoke/VarHandle" := by decide +kernel
theorem c9_J7 : RJ7 ≠ "java/lang/invoke/MethodHandle" ∧ RJ7 ≠ "java/lang/invoke/VarHandle" := by decide +kernel
theorem c9_X0 : RX0 ≠ "java/lang/invoke/MethodHandle" ∧ RX0 ≠ "java/lang/invoke/VarHandle" := by decide +kernel
theorem c9_X1 : RX1 ≠ "java/lang/invoke/MethodHandle" ∧ RX1 ≠ "java/lang/invoke/VarHandle" := by decide +kernel
theorem c9_X10 : RX10 ≠ "java/lang/invoke/MethodHandle" ∧ RX10 ≠ "java/lang/invoke/VarHandle" := by decide +kernel
theorem c9_X2 : RX2 ≠ "java/lang/invoke/MethodHandle" ∧ RX2 ≠ "java/lang/invoke/VarHandle" := by decide +kernel
theorem c9_X3 : RX3 ≠ "java/lang/invoke/MethodHandle" ∧ RX3 ≠ "java/lang/invoke/VarHandle" := by decide +kernel
theorem c9_X4 : RX4 ≠ "java/lang/invoke/MethodHandle" ∧ RX4 ≠ "java/lang/invoke/VarHandle" := by decide +kernel
theorem c9_X5 : RX5 ≠ "java/lang/invoke/MethodHandle" ∧ RX5 ≠ "java/lang/invoke/VarHandle" := by decide +kernel
theorem c9_X6 : RX6 ≠ "java/lang/invoke/MethodHandle" ∧ RX6 ≠ "java/lang/invoke/VarHandle" := by decide +kernel
theorem c9_X7 : RX7 ≠ "java/lang/invoke/MethodHandle" ∧ RX7 ≠ "java/lang/invoke/VarHandle" := by decide +kernel
theorem c9_X8 : RX8 ≠ "java/lang/invoke/MethodHandle" ∧ RX8 ≠ "java/lang/invoke/VarHandle" := by decide +kernel
theorem c9_X9 : RX9 ≠ "java/lang/invoke/MethodHandle" ∧ RX9 ≠ "java/lang/invoke/VarHandle" := by decide +kernel
theorem d9_0 : (parseMethodDescriptor "()B").map (fun d => d.parameters.length) = some 0 := by decide +kernel
theorem d9_1 : (parseMethodDescriptor "()I").map (fun d => d.parameters.length) = some 0 := by decide +kernel
theorem d9_2 : (parseMethodDescriptor "()V").map (fun d => d.parameters.length) = some 0 := by decide +kernel
theorem d9_3 : (parseMethodDescriptor "()Z").map (fun d => d.parameters.length) = some 0 := by decide +kernel
theorem d9_4 : (parseMethodDescriptor "(I)C").map (fun d => d.parameters.length) = some 1 := by decide +kernel
theorem d9_5 : (parseMethodDescriptor "(I)I").map (fun d => d.parameters.length) = some 1 := by decide +kernel
theorem d9_6 : (parseMethodDescriptor "(I)J").map (fun d => d.parameters.length) = some 1 := by decide +kernel
theorem d9_7 : (parseMethodDescriptor "(I)V").map (fun d => d.parameters.length) = some 1 := by decide +kernel
theorem d9_8 : (parseMethodDescriptor "(I)Z").map (fun d => d.parameters.length) = some 1 := by decide +kernel
theorem d9_9 : (parseMethodDescriptor "(II)I").map (fun d => d.parameters.length) = some 2 := by decide +kernel
theorem d9_10 : (parseMethodDescriptor "(II)V").map (fun d => d.parameters.length) = some 2 := by decide +kernel
theorem d9_11 : (parseMethodDescriptor "(II)Z").map (fun d => d.parameters.length) = some 2 := by decide +kernel
theorem d9_12 : (parseMethodDescriptor "(III)I").map (fun d => d.parameters.length) = some 3 := by decide +kernel
theorem d9_13 : (parseMethodDescriptor "(III)Z").map (fun d => d.parameters.length) = some 3 := by decide +kernel
theorem d9_14 : (parseMethodDescriptor "(IIII)I").map (fun d => d.parameters.length) = some 4 := by decide +kernel
theorem d9_15 : (parseMethodDescriptor "(IIII)V").map (fun d => d.parameters.length) = some 4 := by decide +kernel
theorem d9_16 : (parseMethodDescriptor "(IIIII)I").map (fun d => d.parameters.length) = some 5 := by decide +kernel
theorem d9_17 : (parseMethodDescriptor "(IIIII)V").map (fun d => d.parameters.length) = some 5 := by decide +kernel
theorem d9_18 : (parseMethodDescriptor "(IIIIII)I").map (fun d => d.parameters.length) = some 6 := by decide +kernel
theorem d9_19 : (parseMethodDescriptor "(IIIZI)I").map (fun d => d.parameters.length) = some 5 := by decide +kernel
theorem d9_20 : (parseMethodDescriptor "(IIJ)I").map (fun d => d.parameters.length) = some 3 := by decide +kernel
theorem d9_21 : (parseMethodDescriptor "(IILjava/util/function/BiFunction;)I").map (fun d => d.parameters.length) = some 3 := by decide +kernel
theorem d9_22 : (parseMethodDescriptor "(J)J").map (fun d => d.parameters.length) = some 1 := by decide +kernel
theorem d9_23 : (parseMethodDescriptor "(JI)J").map (fun d => d.parameters.length) = some 2 := by decide +kernel
theorem d9_24 : (parseMethodDescriptor "(JIJ)Z").map (fun d => d.parameters.length) = some 3 := by decide +kernel
theorem d9_25 : (parseMethodDescriptor "(JJJ)Z").map (fun d => d.parameters.length) = some 3 := by decide +kernel
theorem d9_26 : (parseMethodDescriptor "(LCardBowl$Code;)V").map (fun d => d.parameters.length) = some 1 := by decide +kernel
theorem d9_27 : (parseMethodDescriptor "(LCardBowl$Code;LCardBowl$Debts;[I)V").map (fun d => d.parameters.length) = some 3 := by decide +kernel
theorem d9_28 : (parseMethodDescriptor "(LCardBowl$Debts;)V").map (fun d => d.parameters.length) = some 1 := by decide +kernel
theorem d9_29 : (parseMethodDescriptor "(LCardBowl$Debts;III)Z").map (fun d => d.parameters.length) = some 4 := by decide +kernel
theorem d9_30 : (parseMethodDescriptor "(LCardBowl$Debts;LCardBowl$Code;IIIII)I").map (fun d => d.parameters.length) = some 7 := by decide +kernel
theorem d9_31 : (parseMethodDescriptor "(LCardBowl$Deeds;)V").map (fun d => d.parameters.length) = some 1 := by decide +kernel
theorem d9_32 : (parseMethodDescriptor "(LCardBowl$State;)V").map (fun d => d.parameters.length) = some 1 := by decide +kernel
theorem d9_33 : (parseMethodDescriptor "(LCardBowl$State;I)I").map (fun d => d.parameters.length) = some 2 := by decide +kernel
theorem d9_34 : (parseMethodDescriptor "(LCardBowl$State;I)V").map (fun d => d.parameters.length) = some 2 := by decide +kernel
theorem d9_35 : (parseMethodDescriptor "(LCardBowl$State;II)V").map (fun d => d.parameters.length) = some 3 := by decide +kernel
theorem d9_36 : (parseMethodDescriptor "(LCardBowl$State;II)Z").map (fun d => d.parameters.length) = some 3 := by decide +kernel
theorem d9_37 : (parseMethodDescriptor "(LCardBowl$State;III)Z").map (fun d => d.parameters.length) = some 4 := by decide +kernel
theorem d9_38 : (parseMethodDescriptor "(LCardBowl$State;IILCardBowl$Slot;)Z").map (fun d => d.parameters.length) = some 4 := by decide +kernel
theorem d9_39 : (parseMethodDescriptor "(LCardBowl$Town;)V").map (fun d => d.parameters.length) = some 1 := by decide +kernel
theorem d9_40 : (parseMethodDescriptor "(LCardBowl$Town;LCardBowl$Code;)V").map (fun d => d.parameters.length) = some 2 := by decide +kernel
theorem d9_41 : (parseMethodDescriptor "(Ljava/lang/String;)I").map (fun d => d.parameters.length) = some 1 := by decide +kernel
theorem d9_42 : (parseMethodDescriptor "(Ljava/lang/String;)V").map (fun d => d.parameters.length) = some 1 := by decide +kernel
theorem d9_43 : (parseMethodDescriptor "(Ljava/lang/String;)Z").map (fun d => d.parameters.length) = some 1 := by decide +kernel
theorem d9_44 : (parseMethodDescriptor "(Ljava/lang/String;II)I").map (fun d => d.parameters.length) = some 3 := by decide +kernel
theorem d9_45 : (parseMethodDescriptor "([BI)C").map (fun d => d.parameters.length) = some 2 := by decide +kernel
theorem d9_46 : (parseMethodDescriptor "([BI)V").map (fun d => d.parameters.length) = some 2 := by decide +kernel
theorem d9_47 : (parseMethodDescriptor "([II)V").map (fun d => d.parameters.length) = some 2 := by decide +kernel
theorem d9_48 : (parseMethodDescriptor "([III)V").map (fun d => d.parameters.length) = some 3 := by decide +kernel
theorem d9_49 : (parseMethodDescriptor "([JJ)V").map (fun d => d.parameters.length) = some 2 := by decide +kernel
theorem cb_J0_charAt_5068e : yJ0_charAt_5068e.cls ≠ "java/lang/invoke/MethodHandle" ∧ yJ0_charAt_5068e.cls ≠ "java/lang/invoke/VarHandle" ∧ (parseMethodDescriptor yJ0_charAt_5068e.desc).map (fun d => d.parameters.length) = some 1 := ⟨c9_J0.1, c9_J0.2, d9_4⟩
theorem cb_J0_checkIndex_df160 : yJ0_checkIndex_df160.cls ≠ "java/lang/invoke/MethodHandle" ∧ yJ0_checkIndex_df160.cls ≠ "java/lang/invoke/VarHandle" ∧ (parseMethodDescriptor yJ0_checkIndex_df160.desc).map (fun d => d.parameters.length) = some 2 := ⟨c9_J0.1, c9_J0.2, d9_10⟩
theorem cb_J0_coder_7d493 : yJ0_coder_7d493.cls ≠ "java/lang/invoke/MethodHandle" ∧ yJ0_coder_7d493.cls ≠ "java/lang/invoke/VarHandle" ∧ (parseMethodDescriptor yJ0_coder_7d493.desc).map (fun d => d.parameters.length) = some 0 := ⟨c9_J0.1, c9_J0.2, d9_0⟩
theorem cb_J0_isLatin1_aae02 : yJ0_isLatin1_aae02.cls ≠ "java/lang/invoke/MethodHandle" ∧ yJ0_isLatin1_aae02.cls ≠ "java/lang/invoke/VarHandle" ∧ (parseMethodDescriptor yJ0_isLatin1_aae02.desc).map (fun d => d.parameters.length) = some 0 := ⟨c9_J0.1, c9_J0.2, d9_3⟩
theorem cb_J0_length_8abf5 : yJ0_length_8abf5.cls ≠ "java/lang/invoke/MethodHandle" ∧ yJ0_length_8abf5.cls ≠ "java/lang/invoke/VarHandle" ∧ (parseMethodDescriptor yJ0_length_8abf5.desc).map (fun d => d.parameters.length) = some 0 := ⟨c9_J0.1, c9_J0.2, d9_1⟩
theorem cb_J1_charAt_3b067 : yJ1_charAt_3b067.cls ≠ "java/lang/invoke/MethodHandle" ∧ yJ1_charAt_3b067.cls ≠ "java/lang/invoke/VarHandle" ∧ (parseMethodDescriptor yJ1_charAt_3b067.desc).map (fun d => d.parameters.length) = some 2 := ⟨c9_J1.1, c9_J1.2, d9_45⟩
theorem cb_J3_checkIndex_8e157 : yJ3_checkIndex_8e157.cls ≠ "java/lang/invoke/MethodHandle" ∧ yJ3_checkIndex_8e157.cls ≠ "java/lang/invoke/VarHandle" ∧ (parseMethodDescriptor yJ3_checkIndex_8e157.desc).map (fun d => d.parameters.length) = some 3 := ⟨c9_J3.1, c9_J3.2, d9_21⟩
theorem cb_J6_bitCount_0f7a4 : yJ6_bitCount_0f7a4.cls ≠ "java/lang/invoke/MethodHandle" ∧ yJ6_bitCount_0f7a4.cls ≠ "java/lang/invoke/VarHandle" ∧ (parseMethodDescriptor yJ6_bitCount_0f7a4.desc).map (fun d => d.parameters.length) = some 1 := ⟨c9_J6.1, c9_J6.2, d9_5⟩
theorem cb_J6_numberOfTrailingZeros_0f7a4 : yJ6_numberOfTrailingZeros_0f7a4.cls ≠ "java/lang/invoke/MethodHandle" ∧ yJ6_numberOfTrailingZeros_0f7a4.cls ≠ "java/lang/invoke/VarHandle" ∧ (parseMethodDescriptor yJ6_numberOfTrailingZeros_0f7a4.desc).map (fun d => d.parameters.length) = some 1 := ⟨c9_J6.1, c9_J6.2, d9_5⟩
theorem cb_J7_fill_53178 : yJ7_fill_53178.cls ≠ "java/lang/invoke/MethodHandle" ∧ yJ7_fill_53178.cls ≠ "java/lang/invoke/VarHandle" ∧ (parseMethodDescriptor yJ7_fill_53178.desc).map (fun d => d.parameters.length) = some 2 := ⟨c9_J7.1, c9_J7.2, d9_47⟩
theorem cb_J7_fill_d0a16 : yJ7_fill_d0a16.cls ≠ "java/lang/invoke/MethodHandle" ∧ yJ7_fill_d0a16.cls ≠ "java/lang/invoke/VarHandle" ∧ (parseMethodDescriptor yJ7_fill_d0a16.desc).map (fun d => d.parameters.length) = some 2 := ⟨c9_J7.1, c9_J7.2, d9_49⟩
theorem cb_X0_bounded : yX0_bounded.cls ≠ "java/lang/invoke/MethodHandle" ∧ yX0_bounded.cls ≠ "java/lang/invoke/VarHandle" ∧ (parseMethodDescriptor yX0_bounded.desc).map (fun d => d.parameters.length) = some 1 := ⟨c9_X0.1, c9_X0.2, d9_22⟩
theorem cb_X0_clear : yX0_clear.cls ≠ "java/lang/invoke/MethodHandle" ∧ yX0_clear.cls ≠ "java/lang/invoke/VarHandle" ∧ (parseMethodDescriptor yX0_clear.desc).map (fun d => d.parameters.length) = some 0 := ⟨c9_X0.1, c9_X0.2, d9_2⟩
theorem cb_X0_compares : yX0_compares.cls ≠ "java/lang/invoke/MethodHandle" ∧ yX0_compares.cls ≠ "java/lang/invoke/VarHandle" ∧ (parseMethodDescriptor yX0_compares.desc).map (fun d => d.parameters.length) = some 3 := ⟨c9_X0.1, c9_X0.2, d9_24⟩
theorem cb_X0_copy : yX0_copy.cls ≠ "java/lang/invoke/MethodHandle" ∧ yX0_copy.cls ≠ "java/lang/invoke/VarHandle" ∧ (parseMethodDescriptor yX0_copy.desc).map (fun d => d.parameters.length) = some 1 := ⟨c9_X0.1, c9_X0.2, d9_26⟩
theorem cb_X0_holds : yX0_holds.cls ≠ "java/lang/invoke/MethodHandle" ∧ yX0_holds.cls ≠ "java/lang/invoke/VarHandle" ∧ (parseMethodDescriptor yX0_holds.desc).map (fun d => d.parameters.length) = some 1 := ⟨c9_X0.1, c9_X0.2, d9_8⟩
theorem cb_X0_init : yX0_init.cls ≠ "java/lang/invoke/MethodHandle" ∧ yX0_init.cls ≠ "java/lang/invoke/VarHandle" ∧ (parseMethodDescriptor yX0_init.desc).map (fun d => d.parameters.length) = some 0 := ⟨c9_X0.1, c9_X0.2, d9_2⟩
theorem cb_X0_lineFor : yX0_lineFor.cls ≠ "java/lang/invoke/MethodHandle" ∧ yX0_lineFor.cls ≠ "java/lang/invoke/VarHandle" ∧ (parseMethodDescriptor yX0_lineFor.desc).map (fun d => d.parameters.length) = some 6 := ⟨c9_X0.1, c9_X0.2, d9_18⟩
theorem cb_X0_partOf : yX0_partOf.cls ≠ "java/lang/invoke/MethodHandle" ∧ yX0_partOf.cls ≠ "java/lang/invoke/VarHandle" ∧ (parseMethodDescriptor yX0_partOf.desc).map (fun d => d.parameters.length) = some 1 := ⟨c9_X0.1, c9_X0.2, d9_5⟩
theorem cb_X0_put : yX0_put.cls ≠ "java/lang/invoke/MethodHandle" ∧ yX0_put.cls ≠ "java/lang/invoke/VarHandle" ∧ (parseMethodDescriptor yX0_put.desc).map (fun d => d.parameters.length) = some 1 := ⟨c9_X0.1, c9_X0.2, d9_7⟩
theorem cb_X10_advance : yX10_advance.cls ≠ "java/lang/invoke/MethodHandle" ∧ yX10_advance.cls ≠ "java/lang/invoke/VarHandle" ∧ (parseMethodDescriptor yX10_advance.desc).map (fun d => d.parameters.length) = some 0 := ⟨c9_X10.1, c9_X10.2, d9_2⟩
theorem cb_X10_areKnown : yX10_areKnown.cls ≠ "java/lang/invoke/MethodHandle" ∧ yX10_areKnown.cls ≠ "java/lang/invoke/VarHandle" ∧ (parseMethodDescriptor yX10_areKnown.desc).map (fun d => d.parameters.length) = some 2 := ⟨c9_X10.1, c9_X10.2, d9_11⟩
theorem cb_X10_areTwo : yX10_areTwo.cls ≠ "java/lang/invoke/MethodHandle" ∧ yX10_areTwo.cls ≠ "java/lang/invoke/VarHandle" ∧ (parseMethodDescriptor yX10_areTwo.desc).map (fun d => d.parameters.length) = some 2 := ⟨c9_X10.1, c9_X10.2, d9_11⟩
theorem cb_X10_back : yX10_back.cls ≠ "java/lang/invoke/MethodHandle" ∧ yX10_back.cls ≠ "java/lang/invoke/VarHandle" ∧ (parseMethodDescriptor yX10_back.desc).map (fun d => d.parameters.length) = some 1 := ⟨c9_X10.1, c9_X10.2, d9_5⟩
theorem cb_X10_bars : yX10_bars.cls ≠ "java/lang/invoke/MethodHandle" ∧ yX10_bars.cls ≠ "java/lang/invoke/VarHandle" ∧ (parseMethodDescriptor yX10_bars.desc).map (fun d => d.parameters.length) = some 3 := ⟨c9_X10.1, c9_X10.2, d9_12⟩
theorem cb_X10_barsOf : yX10_barsOf.cls ≠ "java/lang/invoke/MethodHandle" ∧ yX10_barsOf.cls ≠ "java/lang/invoke/VarHandle" ∧ (parseMethodDescriptor yX10_barsOf.desc).map (fun d => d.parameters.length) = some 3 := ⟨c9_X10.1, c9_X10.2, d9_12⟩
theorem cb_X10_beside : yX10_beside.cls ≠ "java/lang/invoke/MethodHandle" ∧ yX10_beside.cls ≠ "java/lang/invoke/VarHandle" ∧ (parseMethodDescriptor yX10_beside.desc).map (fun d => d.parameters.length) = some 1 := ⟨c9_X10.1, c9_X10.2, d9_5⟩
theorem cb_X10_callsAll : yX10_callsAll.cls ≠ "java/lang/invoke/MethodHandle" ∧ yX10_callsAll.cls ≠ "java/lang/invoke/VarHandle" ∧ (parseMethodDescriptor yX10_callsAll.desc).map (fun d => d.parameters.length) = some 0 := ⟨c9_X10.1, c9_X10.2, d9_2⟩
theorem cb_X10_comes : yX10_comes.cls ≠ "java/lang/invoke/MethodHandle" ∧ yX10_comes.cls ≠ "java/lang/invoke/VarHandle" ∧ (parseMethodDescriptor yX10_comes.desc).map (fun d => d.parameters.length) = some 5 := ⟨c9_X10.1, c9_X10.2, d9_17⟩
theorem cb_X10_comesTo : yX10_comesTo.cls ≠ "java/lang/invoke/MethodHandle" ∧ yX10_comesTo.cls ≠ "java/lang/invoke/VarHandle" ∧ (parseMethodDescriptor yX10_comesTo.desc).map (fun d => d.parameters.length) = some 1 := ⟨c9_X10.1, c9_X10.2, d9_5⟩
theorem cb_X10_count : yX10_count.cls ≠ "java/lang/invoke/MethodHandle" ∧ yX10_count.cls ≠ "java/lang/invoke/VarHandle" ∧ (parseMethodDescriptor yX10_count.desc).map (fun d => d.parameters.length) = some 1 := ⟨c9_X10.1, c9_X10.2, d9_5⟩
theorem cb_X10_covers : yX10_covers.cls ≠ "java/lang/invoke/MethodHandle" ∧ yX10_covers.cls ≠ "java/lang/invoke/VarHandle" ∧ (parseMethodDescriptor yX10_covers.desc).map (fun d => d.parameters.length) = some 2 := ⟨c9_X10.1, c9_X10.2, d9_9⟩
theorem cb_X10_cut : yX10_cut.cls ≠ "java/lang/invoke/MethodHandle" ∧ yX10_cut.cls ≠ "java/lang/invoke/VarHandle" ∧ (parseMethodDescriptor yX10_cut.desc).map (fun d => d.parameters.length) = some 2 := ⟨c9_X10.1, c9_X10.2, d9_23⟩
theorem cb_X10_dayHere : yX10_dayHere.cls ≠ "java/lang/invoke/MethodHandle" ∧ yX10_dayHere.cls ≠ "java/lang/invoke/VarHandle" ∧ (parseMethodDescriptor yX10_dayHere.desc).map (fun d => d.parameters.length) = some 0 := ⟨c9_X10.1, c9_X10.2, d9_1⟩
theorem cb_X10_days : yX10_days.cls ≠ "java/lang/invoke/MethodHandle" ∧ yX10_days.cls ≠ "java/lang/invoke/VarHandle" ∧ (parseMethodDescriptor yX10_days.desc).map (fun d => d.parameters.length) = some 1 := ⟨c9_X10.1, c9_X10.2, d9_5⟩
theorem cb_X10_debt : yX10_debt.cls ≠ "java/lang/invoke/MethodHandle" ∧ yX10_debt.cls ≠ "java/lang/invoke/VarHandle" ∧ (parseMethodDescriptor yX10_debt.desc).map (fun d => d.parameters.length) = some 3 := ⟨c9_X10.1, c9_X10.2, d9_12⟩
theorem cb_X10_debts : yX10_debts.cls ≠ "java/lang/invoke/MethodHandle" ∧ yX10_debts.cls ≠ "java/lang/invoke/VarHandle" ∧ (parseMethodDescriptor yX10_debts.desc).map (fun d => d.parameters.length) = some 1 := ⟨c9_X10.1, c9_X10.2, d9_5⟩
theorem cb_X10_debtsOf : yX10_debtsOf.cls ≠ "java/lang/invoke/MethodHandle" ∧ yX10_debtsOf.cls ≠ "java/lang/invoke/VarHandle" ∧ (parseMethodDescriptor yX10_debtsOf.desc).map (fun d => d.parameters.length) = some 1 := ⟨c9_X10.1, c9_X10.2, d9_5⟩
theorem cb_X10_does : yX10_does.cls ≠ "java/lang/invoke/MethodHandle" ∧ yX10_does.cls ≠ "java/lang/invoke/VarHandle" ∧ (parseMethodDescriptor yX10_does.desc).map (fun d => d.parameters.length) = some 3 := ⟨c9_X10.1, c9_X10.2, d9_12⟩
theorem cb_X10_done : yX10_done.cls ≠ "java/lang/invoke/MethodHandle" ∧ yX10_done.cls ≠ "java/lang/invoke/VarHandle" ∧ (parseMethodDescriptor yX10_done.desc).map (fun d => d.parameters.length) = some 1 := ⟨c9_X10.1, c9_X10.2, d9_5⟩
theorem cb_X10_drop : yX10_drop.cls ≠ "java/lang/invoke/MethodHandle" ∧ yX10_drop.cls ≠ "java/lang/invoke/VarHandle" ∧ (parseMethodDescriptor yX10_drop.desc).map (fun d => d.parameters.length) = some 1 := ⟨c9_X10.1, c9_X10.2, d9_5⟩
theorem cb_X10_drops : yX10_drops.cls ≠ "java/lang/invoke/MethodHandle" ∧ yX10_drops.cls ≠ "java/lang/invoke/VarHandle" ∧ (parseMethodDescriptor yX10_drops.desc).map (fun d => d.parameters.length) = some 1 := ⟨c9_X10.1, c9_X10.2, d9_7⟩
theorem cb_X10_end : yX10_end.cls ≠ "java/lang/invoke/MethodHandle" ∧ yX10_end.cls ≠ "java/lang/invoke/VarHandle" ∧ (parseMethodDescriptor yX10_end.desc).map (fun d => d.parameters.length) = some 1 := ⟨c9_X10.1, c9_X10.2, d9_5⟩
theorem cb_X10_errs : yX10_errs.cls ≠ "java/lang/invoke/MethodHandle" ∧ yX10_errs.cls ≠ "java/lang/invoke/VarHandle" ∧ (parseMethodDescriptor yX10_errs.desc).map (fun d => d.parameters.length) = some 1 := ⟨c9_X10.1, c9_X10.2, d9_7⟩
theorem cb_X10_fault : yX10_fault.cls ≠ "java/lang/invoke/MethodHandle" ∧ yX10_fault.cls ≠ "java/lang/invoke/VarHandle" ∧ (parseMethodDescriptor yX10_fault.desc).map (fun d => d.parameters.length) = some 1 := ⟨c9_X10.1, c9_X10.2, d9_5⟩
theorem cb_X10_feed : yX10_feed.cls ≠ "java/lang/invoke/MethodHandle" ∧ yX10_feed.cls ≠ "java/lang/invoke/VarHandle" ∧ (parseMethodDescriptor yX10_feed.desc).map (fun d => d.parameters.length) = some 5 := ⟨c9_X10.1, c9_X10.2, d9_16⟩
theorem cb_X10_fewest : yX10_fewest.cls ≠ "java/lang/invoke/MethodHandle" ∧ yX10_fewest.cls ≠ "java/lang/invoke/VarHandle" ∧ (parseMethodDescriptor yX10_fewest.desc).map (fun d => d.parameters.length) = some 1 := ⟨c9_X10.1, c9_X10.2, d9_5⟩
theorem cb_X10_finds : yX10_finds.cls ≠ "java/lang/invoke/MethodHandle" ∧ yX10_finds.cls ≠ "java/lang/invoke/VarHandle" ∧ (parseMethodDescriptor yX10_finds.desc).map (fun d => d.parameters.length) = some 2 := ⟨c9_X10.1, c9_X10.2, d9_11⟩
theorem cb_X10_first : yX10_first.cls ≠ "java/lang/invoke/MethodHandle" ∧ yX10_first.cls ≠ "java/lang/invoke/VarHandle" ∧ (parseMethodDescriptor yX10_first.desc).map (fun d => d.parameters.length) = some 0 := ⟨c9_X10.1, c9_X10.2, d9_1⟩
theorem cb_X10_goes : yX10_goes.cls ≠ "java/lang/invoke/MethodHandle" ∧ yX10_goes.cls ≠ "java/lang/invoke/VarHandle" ∧ (parseMethodDescriptor yX10_goes.desc).map (fun d => d.parameters.length) = some 4 := ⟨c9_X10.1, c9_X10.2, d9_14⟩
theorem cb_X10_goesThrough : yX10_goesThrough.cls ≠ "java/lang/invoke/MethodHandle" ∧ yX10_goesThrough.cls ≠ "java/lang/invoke/VarHandle" ∧ (parseMethodDescriptor yX10_goesThrough.desc).map (fun d => d.parameters.length) = some 4 := ⟨c9_X10.1, c9_X10.2, d9_15⟩
theorem cb_X10_good : yX10_good.cls ≠ "java/lang/invoke/MethodHandle" ∧ yX10_good.cls ≠ "java/lang/invoke/VarHandle" ∧ (parseMethodDescriptor yX10_good.desc).map (fun d => d.parameters.length) = some 0 := ⟨c9_X10.1, c9_X10.2, d9_3⟩
theorem cb_X10_hangs : yX10_hangs.cls ≠ "java/lang/invoke/MethodHandle" ∧ yX10_hangs.cls ≠ "java/lang/invoke/VarHandle" ∧ (parseMethodDescriptor yX10_hangs.desc).map (fun d => d.parameters.length) = some 3 := ⟨c9_X10.1, c9_X10.2, d9_12⟩
theorem cb_X10_holds : yX10_holds.cls ≠ "java/lang/invoke/MethodHandle" ∧ yX10_holds.cls ≠ "java/lang/invoke/VarHandle" ∧ (parseMethodDescriptor yX10_holds.desc).map (fun d => d.parameters.length) = some 2 := ⟨c9_X10.1, c9_X10.2, d9_11⟩
theorem cb_X10_house : yX10_house.cls ≠ "java/lang/invoke/MethodHandle" ∧ yX10_house.cls ≠ "java/lang/invoke/VarHandle" ∧ (parseMethodDescriptor yX10_house.desc).map (fun d => d.parameters.length) = some 2 := ⟨c9_X10.1, c9_X10.2, d9_9⟩
theorem cb_X10_in : yX10_in.cls ≠ "java/lang/invoke/MethodHandle" ∧ yX10_in.cls ≠ "java/lang/invoke/VarHandle" ∧ (parseMethodDescriptor yX10_in.desc).map (fun d => d.parameters.length) = some 3 := ⟨c9_X10.1, c9_X10.2, d9_25⟩
theorem cb_X10_init : yX10_init.cls ≠ "java/lang/invoke/MethodHandle" ∧ yX10_init.cls ≠ "java/lang/invoke/VarHandle" ∧ (parseMethodDescriptor yX10_init.desc).map (fun d => d.parameters.length) = some 0 := ⟨c9_X10.1, c9_X10.2, d9_2⟩
theorem cb_X10_is : yX10_is.cls ≠ "java/lang/invoke/MethodHandle" ∧ yX10_is.cls ≠ "java/lang/invoke/VarHandle" ∧ (parseMethodDescriptor yX10_is.desc).map (fun d => d.parameters.length) = some 1 := ⟨c9_X10.1, c9_X10.2, d9_43⟩
theorem cb_X10_isHouse : yX10_isHouse.cls ≠ "java/lang/invoke/MethodHandle" ∧ yX10_isHouse.cls ≠ "java/lang/invoke/VarHandle" ∧ (parseMethodDescriptor yX10_isHouse.desc).map (fun d => d.parameters.length) = some 1 := ⟨c9_X10.1, c9_X10.2, d9_8⟩
theorem cb_X10_isIntroduced : yX10_isIntroduced.cls ≠ "java/lang/invoke/MethodHandle" ∧ yX10_isIntroduced.cls ≠ "java/lang/invoke/VarHandle" ∧ (parseMethodDescriptor yX10_isIntroduced.desc).map (fun d => d.parameters.length) = some 2 := ⟨c9_X10.1, c9_X10.2, d9_11⟩
theorem cb_X10_isNew : yX10_isNew.cls ≠ "java/lang/invoke/MethodHandle" ∧ yX10_isNew.cls ≠ "java/lang/invoke/VarHandle" ∧ (parseMethodDescriptor yX10_isNew.desc).map (fun d => d.parameters.length) = some 1 := ⟨c9_X10.1, c9_X10.2, d9_8⟩
theorem cb_X10_isPaying : yX10_isPaying.cls ≠ "java/lang/invoke/MethodHandle" ∧ yX10_isPaying.cls ≠ "java/lang/invoke/VarHandle" ∧ (parseMethodDescriptor yX10_isPaying.desc).map (fun d => d.parameters.length) = some 1 := ⟨c9_X10.1, c9_X10.2, d9_8⟩
theorem cb_X10_isRound : yX10_isRound.cls ≠ "java/lang/invoke/MethodHandle" ∧ yX10_isRound.cls ≠ "java/lang/invoke/VarHandle" ∧ (parseMethodDescriptor yX10_isRound.desc).map (fun d => d.parameters.length) = some 2 := ⟨c9_X10.1, c9_X10.2, d9_11⟩
theorem cb_X10_isSlot : yX10_isSlot.cls ≠ "java/lang/invoke/MethodHandle" ∧ yX10_isSlot.cls ≠ "java/lang/invoke/VarHandle" ∧ (parseMethodDescriptor yX10_isSlot.desc).map (fun d => d.parameters.length) = some 1 := ⟨c9_X10.1, c9_X10.2, d9_8⟩
theorem cb_X10_isThere : yX10_isThere.cls ≠ "java/lang/invoke/MethodHandle" ∧ yX10_isThere.cls ≠ "java/lang/invoke/VarHandle" ∧ (parseMethodDescriptor yX10_isThere.desc).map (fun d => d.parameters.length) = some 2 := ⟨c9_X10.1, c9_X10.2, d9_11⟩
theorem cb_X10_keep : yX10_keep.cls ≠ "java/lang/invoke/MethodHandle" ∧ yX10_keep.cls ≠ "java/lang/invoke/VarHandle" ∧ (parseMethodDescriptor yX10_keep.desc).map (fun d => d.parameters.length) = some 1 := ⟨c9_X10.1, c9_X10.2, d9_5⟩
theorem cb_X10_known : yX10_known.cls ≠ "java/lang/invoke/MethodHandle" ∧ yX10_known.cls ≠ "java/lang/invoke/VarHandle" ∧ (parseMethodDescriptor yX10_known.desc).map (fun d => d.parameters.length) = some 2 := ⟨c9_X10.1, c9_X10.2, d9_9⟩
theorem cb_X10_lineFor : yX10_lineFor.cls ≠ "java/lang/invoke/MethodHandle" ∧ yX10_lineFor.cls ≠ "java/lang/invoke/VarHandle" ∧ (parseMethodDescriptor yX10_lineFor.desc).map (fun d => d.parameters.length) = some 5 := ⟨c9_X10.1, c9_X10.2, d9_19⟩
theorem cb_X10_lists : yX10_lists.cls ≠ "java/lang/invoke/MethodHandle" ∧ yX10_lists.cls ≠ "java/lang/invoke/VarHandle" ∧ (parseMethodDescriptor yX10_lists.desc).map (fun d => d.parameters.length) = some 1 := ⟨c9_X10.1, c9_X10.2, d9_7⟩
theorem cb_X10_listsTen : yX10_listsTen.cls ≠ "java/lang/invoke/MethodHandle" ∧ yX10_listsTen.cls ≠ "java/lang/invoke/VarHandle" ∧ (parseMethodDescriptor yX10_listsTen.desc).map (fun d => d.parameters.length) = some 1 := ⟨c9_X10.1, c9_X10.2, d9_7⟩
theorem cb_X10_lost : yX10_lost.cls ≠ "java/lang/invoke/MethodHandle" ∧ yX10_lost.cls ≠ "java/lang/invoke/VarHandle" ∧ (parseMethodDescriptor yX10_lost.desc).map (fun d => d.parameters.length) = some 1 := ⟨c9_X10.1, c9_X10.2, d9_5⟩
theorem cb_X10_may : yX10_may.cls ≠ "java/lang/invoke/MethodHandle" ∧ yX10_may.cls ≠ "java/lang/invoke/VarHandle" ∧ (parseMethodDescriptor yX10_may.desc).map (fun d => d.parameters.length) = some 3 := ⟨c9_X10.1, c9_X10.2, d9_12⟩
theorem cb_X10_meet : yX10_meet.cls ≠ "java/lang/invoke/MethodHandle" ∧ yX10_meet.cls ≠ "java/lang/invoke/VarHandle" ∧ (parseMethodDescriptor yX10_meet.desc).map (fun d => d.parameters.length) = some 2 := ⟨c9_X10.1, c9_X10.2, d9_9⟩
theorem cb_X10_meets : yX10_meets.cls ≠ "java/lang/invoke/MethodHandle" ∧ yX10_meets.cls ≠ "java/lang/invoke/VarHandle" ∧ (parseMethodDescriptor yX10_meets.desc).map (fun d => d.parameters.length) = some 2 := ⟨c9_X10.1, c9_X10.2, d9_10⟩
theorem cb_X10_minutes : yX10_minutes.cls ≠ "java/lang/invoke/MethodHandle" ∧ yX10_minutes.cls ≠ "java/lang/invoke/VarHandle" ∧ (parseMethodDescriptor yX10_minutes.desc).map (fun d => d.parameters.length) = some 2 := ⟨c9_X10.1, c9_X10.2, d9_9⟩
theorem cb_X10_needs : yX10_needs.cls ≠ "java/lang/invoke/MethodHandle" ∧ yX10_needs.cls ≠ "java/lang/invoke/VarHandle" ∧ (parseMethodDescriptor yX10_needs.desc).map (fun d => d.parameters.length) = some 1 := ⟨c9_X10.1, c9_X10.2, d9_42⟩
theorem cb_X10_notes : yX10_notes.cls ≠ "java/lang/invoke/MethodHandle" ∧ yX10_notes.cls ≠ "java/lang/invoke/VarHandle" ∧ (parseMethodDescriptor yX10_notes.desc).map (fun d => d.parameters.length) = some 3 := ⟨c9_X10.1, c9_X10.2, d9_12⟩
theorem cb_X10_number : yX10_number.cls ≠ "java/lang/invoke/MethodHandle" ∧ yX10_number.cls ≠ "java/lang/invoke/VarHandle" ∧ (parseMethodDescriptor yX10_number.desc).map (fun d => d.parameters.length) = some 2 := ⟨c9_X10.1, c9_X10.2, d9_9⟩
theorem cb_X10_ofDebt : yX10_ofDebt.cls ≠ "java/lang/invoke/MethodHandle" ∧ yX10_ofDebt.cls ≠ "java/lang/invoke/VarHandle" ∧ (parseMethodDescriptor yX10_ofDebt.desc).map (fun d => d.parameters.length) = some 2 := ⟨c9_X10.1, c9_X10.2, d9_9⟩
theorem cb_X10_ofHouse : yX10_ofHouse.cls ≠ "java/lang/invoke/MethodHandle" ∧ yX10_ofHouse.cls ≠ "java/lang/invoke/VarHandle" ∧ (parseMethodDescriptor yX10_ofHouse.desc).map (fun d => d.parameters.length) = some 2 := ⟨c9_X10.1, c9_X10.2, d9_9⟩
theorem cb_X10_ones : yX10_ones.cls ≠ "java/lang/invoke/MethodHandle" ∧ yX10_ones.cls ≠ "java/lang/invoke/VarHandle" ∧ (parseMethodDescriptor yX10_ones.desc).map (fun d => d.parameters.length) = some 1 := ⟨c9_X10.1, c9_X10.2, d9_5⟩
theorem cb_X10_over : yX10_over.cls ≠ "java/lang/invoke/MethodHandle" ∧ yX10_over.cls ≠ "java/lang/invoke/VarHandle" ∧ (parseMethodDescriptor yX10_over.desc).map (fun d => d.parameters.length) = some 2 := ⟨c9_X10.1, c9_X10.2, d9_9⟩
theorem cb_X10_overOf : yX10_overOf.cls ≠ "java/lang/invoke/MethodHandle" ∧ yX10_overOf.cls ≠ "java/lang/invoke/VarHandle" ∧ (parseMethodDescriptor yX10_overOf.desc).map (fun d => d.parameters.length) = some 1 := ⟨c9_X10.1, c9_X10.2, d9_5⟩
theorem cb_X10_owes : yX10_owes.cls ≠ "java/lang/invoke/MethodHandle" ∧ yX10_owes.cls ≠ "java/lang/invoke/VarHandle" ∧ (parseMethodDescriptor yX10_owes.desc).map (fun d => d.parameters.length) = some 3 := ⟨c9_X10.1, c9_X10.2, d9_12⟩
theorem cb_X10_owesAlready : yX10_owesAlready.cls ≠ "java/lang/invoke/MethodHandle" ∧ yX10_owesAlready.cls ≠ "java/lang/invoke/VarHandle" ∧ (parseMethodDescriptor yX10_owesAlready.desc).map (fun d => d.parameters.length) = some 3 := ⟨c9_X10.1, c9_X10.2, d9_13⟩
theorem cb_X10_partOf : yX10_partOf.cls ≠ "java/lang/invoke/MethodHandle" ∧ yX10_partOf.cls ≠ "java/lang/invoke/VarHandle" ∧ (parseMethodDescriptor yX10_partOf.desc).map (fun d => d.parameters.length) = some 1 := ⟨c9_X10.1, c9_X10.2, d9_6⟩
theorem cb_X10_paste : yX10_paste.cls ≠ "java/lang/invoke/MethodHandle" ∧ yX10_paste.cls ≠ "java/lang/invoke/VarHandle" ∧ (parseMethodDescriptor yX10_paste.desc).map (fun d => d.parameters.length) = some 5 := ⟨c9_X10.1, c9_X10.2, d9_16⟩
theorem cb_X10_path : yX10_path.cls ≠ "java/lang/invoke/MethodHandle" ∧ yX10_path.cls ≠ "java/lang/invoke/VarHandle" ∧ (parseMethodDescriptor yX10_path.desc).map (fun d => d.parameters.length) = some 3 := ⟨c9_X10.1, c9_X10.2, d9_12⟩
theorem cb_X10_payingHere : yX10_payingHere.cls ≠ "java/lang/invoke/MethodHandle" ∧ yX10_payingHere.cls ≠ "java/lang/invoke/VarHandle" ∧ (parseMethodDescriptor yX10_payingHere.desc).map (fun d => d.parameters.length) = some 0 := ⟨c9_X10.1, c9_X10.2, d9_1⟩
theorem cb_X10_pays : yX10_pays.cls ≠ "java/lang/invoke/MethodHandle" ∧ yX10_pays.cls ≠ "java/lang/invoke/VarHandle" ∧ (parseMethodDescriptor yX10_pays.desc).map (fun d => d.parameters.length) = some 3 := ⟨c9_X10.1, c9_X10.2, d9_12⟩
theorem cb_X10_placeOf : yX10_placeOf.cls ≠ "java/lang/invoke/MethodHandle" ∧ yX10_placeOf.cls ≠ "java/lang/invoke/VarHandle" ∧ (parseMethodDescriptor yX10_placeOf.desc).map (fun d => d.parameters.length) = some 2 := ⟨c9_X10.1, c9_X10.2, d9_9⟩
theorem cb_X10_reach : yX10_reach.cls ≠ "java/lang/invoke/MethodHandle" ∧ yX10_reach.cls ≠ "java/lang/invoke/VarHandle" ∧ (parseMethodDescriptor yX10_reach.desc).map (fun d => d.parameters.length) = some 1 := ⟨c9_X10.1, c9_X10.2, d9_5⟩
theorem cb_X10_readHouse : yX10_readHouse.cls ≠ "java/lang/invoke/MethodHandle" ∧ yX10_readHouse.cls ≠ "java/lang/invoke/VarHandle" ∧ (parseMethodDescriptor yX10_readHouse.desc).map (fun d => d.parameters.length) = some 0 := ⟨c9_X10.1, c9_X10.2, d9_2⟩
theorem cb_X10_readKnow : yX10_readKnow.cls ≠ "java/lang/invoke/MethodHandle" ∧ yX10_readKnow.cls ≠ "java/lang/invoke/VarHandle" ∧ (parseMethodDescriptor yX10_readKnow.desc).map (fun d => d.parameters.length) = some 0 := ⟨c9_X10.1, c9_X10.2, d9_2⟩
theorem cb_X10_readLine : yX10_readLine.cls ≠ "java/lang/invoke/MethodHandle" ∧ yX10_readLine.cls ≠ "java/lang/invoke/VarHandle" ∧ (parseMethodDescriptor yX10_readLine.desc).map (fun d => d.parameters.length) = some 0 := ⟨c9_X10.1, c9_X10.2, d9_2⟩
theorem cb_X10_readOwes : yX10_readOwes.cls ≠ "java/lang/invoke/MethodHandle" ∧ yX10_readOwes.cls ≠ "java/lang/invoke/VarHandle" ∧ (parseMethodDescriptor yX10_readOwes.desc).map (fun d => d.parameters.length) = some 0 := ⟨c9_X10.1, c9_X10.2, d9_2⟩
theorem cb_X10_readPart : yX10_readPart.cls ≠ "java/lang/invoke/MethodHandle" ∧ yX10_readPart.cls ≠ "java/lang/invoke/VarHandle" ∧ (parseMethodDescriptor yX10_readPart.desc).map (fun d => d.parameters.length) = some 1 := ⟨c9_X10.1, c9_X10.2, d9_7⟩
theorem cb_X10_readSum : yX10_readSum.cls ≠ "java/lang/invoke/MethodHandle" ∧ yX10_readSum.cls ≠ "java/lang/invoke/VarHandle" ∧ (parseMethodDescriptor yX10_readSum.desc).map (fun d => d.parameters.length) = some 1 := ⟨c9_X10.1, c9_X10.2, d9_7⟩
theorem cb_X10_readTest : yX10_readTest.cls ≠ "java/lang/invoke/MethodHandle" ∧ yX10_readTest.cls ≠ "java/lang/invoke/VarHandle" ∧ (parseMethodDescriptor yX10_readTest.desc).map (fun d => d.parameters.length) = some 0 := ⟨c9_X10.1, c9_X10.2, d9_2⟩
theorem cb_X10_ring : yX10_ring.cls ≠ "java/lang/invoke/MethodHandle" ∧ yX10_ring.cls ≠ "java/lang/invoke/VarHandle" ∧ (parseMethodDescriptor yX10_ring.desc).map (fun d => d.parameters.length) = some 1 := ⟨c9_X10.1, c9_X10.2, d9_5⟩
theorem cb_X10_ringOf : yX10_ringOf.cls ≠ "java/lang/invoke/MethodHandle" ∧ yX10_ringOf.cls ≠ "java/lang/invoke/VarHandle" ∧ (parseMethodDescriptor yX10_ringOf.desc).map (fun d => d.parameters.length) = some 1 := ⟨c9_X10.1, c9_X10.2, d9_5⟩
theorem cb_X10_rings : yX10_rings.cls ≠ "java/lang/invoke/MethodHandle" ∧ yX10_rings.cls ≠ "java/lang/invoke/VarHandle" ∧ (parseMethodDescriptor yX10_rings.desc).map (fun d => d.parameters.length) = some 0 := ⟨c9_X10.1, c9_X10.2, d9_1⟩
theorem cb_X10_round : yX10_round.cls ≠ "java/lang/invoke/MethodHandle" ∧ yX10_round.cls ≠ "java/lang/invoke/VarHandle" ∧ (parseMethodDescriptor yX10_round.desc).map (fun d => d.parameters.length) = some 3 := ⟨c9_X10.1, c9_X10.2, d9_12⟩
theorem cb_X10_rounds : yX10_rounds.cls ≠ "java/lang/invoke/MethodHandle" ∧ yX10_rounds.cls ≠ "java/lang/invoke/VarHandle" ∧ (parseMethodDescriptor yX10_rounds.desc).map (fun d => d.parameters.length) = some 2 := ⟨c9_X10.1, c9_X10.2, d9_10⟩
theorem cb_X10_row : yX10_row.cls ≠ "java/lang/invoke/MethodHandle" ∧ yX10_row.cls ≠ "java/lang/invoke/VarHandle" ∧ (parseMethodDescriptor yX10_row.desc).map (fun d => d.parameters.length) = some 3 := ⟨c9_X10.1, c9_X10.2, d9_12⟩
theorem cb_X10_rowOf : yX10_rowOf.cls ≠ "java/lang/invoke/MethodHandle" ∧ yX10_rowOf.cls ≠ "java/lang/invoke/VarHandle" ∧ (parseMethodDescriptor yX10_rowOf.desc).map (fun d => d.parameters.length) = some 2 := ⟨c9_X10.1, c9_X10.2, d9_10⟩
theorem cb_X10_see : yX10_see.cls ≠ "java/lang/invoke/MethodHandle" ∧ yX10_see.cls ≠ "java/lang/invoke/VarHandle" ∧ (parseMethodDescriptor yX10_see.desc).map (fun d => d.parameters.length) = some 1 := ⟨c9_X10.1, c9_X10.2, d9_5⟩
theorem cb_X10_seen : yX10_seen.cls ≠ "java/lang/invoke/MethodHandle" ∧ yX10_seen.cls ≠ "java/lang/invoke/VarHandle" ∧ (parseMethodDescriptor yX10_seen.desc).map (fun d => d.parameters.length) = some 4 := ⟨c9_X10.1, c9_X10.2, d9_14⟩
theorem cb_X10_slights : yX10_slights.cls ≠ "java/lang/invoke/MethodHandle" ∧ yX10_slights.cls ≠ "java/lang/invoke/VarHandle" ∧ (parseMethodDescriptor yX10_slights.desc).map (fun d => d.parameters.length) = some 1 := ⟨c9_X10.1, c9_X10.2, d9_5⟩
theorem cb_X10_slightsOf : yX10_slightsOf.cls ≠ "java/lang/invoke/MethodHandle" ∧ yX10_slightsOf.cls ≠ "java/lang/invoke/VarHandle" ∧ (parseMethodDescriptor yX10_slightsOf.desc).map (fun d => d.parameters.length) = some 1 := ⟨c9_X10.1, c9_X10.2, d9_5⟩
theorem cb_X10_soon : yX10_soon.cls ≠ "java/lang/invoke/MethodHandle" ∧ yX10_soon.cls ≠ "java/lang/invoke/VarHandle" ∧ (parseMethodDescriptor yX10_soon.desc).map (fun d => d.parameters.length) = some 2 := ⟨c9_X10.1, c9_X10.2, d9_9⟩
theorem cb_X10_taken : yX10_taken.cls ≠ "java/lang/invoke/MethodHandle" ∧ yX10_taken.cls ≠ "java/lang/invoke/VarHandle" ∧ (parseMethodDescriptor yX10_taken.desc).map (fun d => d.parameters.length) = some 1 := ⟨c9_X10.1, c9_X10.2, d9_5⟩
theorem cb_X10_takes : yX10_takes.cls ≠ "java/lang/invoke/MethodHandle" ∧ yX10_takes.cls ≠ "java/lang/invoke/VarHandle" ∧ (parseMethodDescriptor yX10_takes.desc).map (fun d => d.parameters.length) = some 1 := ⟨c9_X10.1, c9_X10.2, d9_43⟩
theorem cb_X10_testHolds : yX10_testHolds.cls ≠ "java/lang/invoke/MethodHandle" ∧ yX10_testHolds.cls ≠ "java/lang/invoke/VarHandle" ∧ (parseMethodDescriptor yX10_testHolds.desc).map (fun d => d.parameters.length) = some 1 := ⟨c9_X10.1, c9_X10.2, d9_8⟩
theorem cb_X10_tie : yX10_tie.cls ≠ "java/lang/invoke/MethodHandle" ∧ yX10_tie.cls ≠ "java/lang/invoke/VarHandle" ∧ (parseMethodDescriptor yX10_tie.desc).map (fun d => d.parameters.length) = some 2 := ⟨c9_X10.1, c9_X10.2, d9_9⟩
theorem cb_X10_today : yX10_today.cls ≠ "java/lang/invoke/MethodHandle" ∧ yX10_today.cls ≠ "java/lang/invoke/VarHandle" ∧ (parseMethodDescriptor yX10_today.desc).map (fun d => d.parameters.length) = some 0 := ⟨c9_X10.1, c9_X10.2, d9_1⟩
theorem cb_X10_told : yX10_told.cls ≠ "java/lang/invoke/MethodHandle" ∧ yX10_told.cls ≠ "java/lang/invoke/VarHandle" ∧ (parseMethodDescriptor yX10_told.desc).map (fun d => d.parameters.length) = some 3 := ⟨c9_X10.1, c9_X10.2, d9_44⟩
theorem cb_X10_town : yX10_town.cls ≠ "java/lang/invoke/MethodHandle" ∧ yX10_town.cls ≠ "java/lang/invoke/VarHandle" ∧ (parseMethodDescriptor yX10_town.desc).map (fun d => d.parameters.length) = some 0 := ⟨c9_X10.1, c9_X10.2, d9_1⟩
theorem cb_X10_walks : yX10_walks.cls ≠ "java/lang/invoke/MethodHandle" ∧ yX10_walks.cls ≠ "java/lang/invoke/VarHandle" ∧ (parseMethodDescriptor yX10_walks.desc).map (fun d => d.parameters.length) = some 1 := ⟨c9_X10.1, c9_X10.2, d9_7⟩
theorem cb_X10_weighs : yX10_weighs.cls ≠ "java/lang/invoke/MethodHandle" ∧ yX10_weighs.cls ≠ "java/lang/invoke/VarHandle" ∧ (parseMethodDescriptor yX10_weighs.desc).map (fun d => d.parameters.length) = some 1 := ⟨c9_X10.1, c9_X10.2, d9_7⟩
theorem cb_X10_worth : yX10_worth.cls ≠ "java/lang/invoke/MethodHandle" ∧ yX10_worth.cls ≠ "java/lang/invoke/VarHandle" ∧ (parseMethodDescriptor yX10_worth.desc).map (fun d => d.parameters.length) = some 2 := ⟨c9_X10.1, c9_X10.2, d9_9⟩
theorem cb_X10_write : yX10_write.cls ≠ "java/lang/invoke/MethodHandle" ∧ yX10_write.cls ≠ "java/lang/invoke/VarHandle" ∧ (parseMethodDescriptor yX10_write.desc).map (fun d => d.parameters.length) = some 3 := ⟨c9_X10.1, c9_X10.2, d9_20⟩
theorem cb_X1_add : yX1_add.cls ≠ "java/lang/invoke/MethodHandle" ∧ yX1_add.cls ≠ "java/lang/invoke/VarHandle" ∧ (parseMethodDescriptor yX1_add.desc).map (fun d => d.parameters.length) = some 5 := ⟨c9_X1.1, c9_X1.2, d9_17⟩
theorem cb_X1_clear : yX1_clear.cls ≠ "java/lang/invoke/MethodHandle" ∧ yX1_clear.cls ≠ "java/lang/invoke/VarHandle" ∧ (parseMethodDescriptor yX1_clear.desc).map (fun d => d.parameters.length) = some 0 := ⟨c9_X1.1, c9_X1.2, d9_2⟩
theorem cb_X1_copy : yX1_copy.cls ≠ "java/lang/invoke/MethodHandle" ∧ yX1_copy.cls ≠ "java/lang/invoke/VarHandle" ∧ (parseMethodDescriptor yX1_copy.desc).map (fun d => d.parameters.length) = some 1 := ⟨c9_X1.1, c9_X1.2, d9_28⟩
theorem cb_X1_init : yX1_init.cls ≠ "java/lang/invoke/MethodHandle" ∧ yX1_init.cls ≠ "java/lang/invoke/VarHandle" ∧ (parseMethodDescriptor yX1_init.desc).map (fun d => d.parameters.length) = some 0 := ⟨c9_X1.1, c9_X1.2, d9_2⟩
theorem cb_X1_kindsOf : yX1_kindsOf.cls ≠ "java/lang/invoke/MethodHandle" ∧ yX1_kindsOf.cls ≠ "java/lang/invoke/VarHandle" ∧ (parseMethodDescriptor yX1_kindsOf.desc).map (fun d => d.parameters.length) = some 2 := ⟨c9_X1.1, c9_X1.2, d9_9⟩
theorem cb_X1_move : yX1_move.cls ≠ "java/lang/invoke/MethodHandle" ∧ yX1_move.cls ≠ "java/lang/invoke/VarHandle" ∧ (parseMethodDescriptor yX1_move.desc).map (fun d => d.parameters.length) = some 2 := ⟨c9_X1.1, c9_X1.2, d9_10⟩
theorem cb_X1_nth : yX1_nth.cls ≠ "java/lang/invoke/MethodHandle" ∧ yX1_nth.cls ≠ "java/lang/invoke/VarHandle" ∧ (parseMethodDescriptor yX1_nth.desc).map (fun d => d.parameters.length) = some 2 := ⟨c9_X1.1, c9_X1.2, d9_9⟩
theorem cb_X1_overdue : yX1_overdue.cls ≠ "java/lang/invoke/MethodHandle" ∧ yX1_overdue.cls ≠ "java/lang/invoke/VarHandle" ∧ (parseMethodDescriptor yX1_overdue.desc).map (fun d => d.parameters.length) = some 1 := ⟨c9_X1.1, c9_X1.2, d9_5⟩
theorem cb_X1_overdueTo : yX1_overdueTo.cls ≠ "java/lang/invoke/MethodHandle" ∧ yX1_overdueTo.cls ≠ "java/lang/invoke/VarHandle" ∧ (parseMethodDescriptor yX1_overdueTo.desc).map (fun d => d.parameters.length) = some 2 := ⟨c9_X1.1, c9_X1.2, d9_9⟩
theorem cb_X1_settle : yX1_settle.cls ≠ "java/lang/invoke/MethodHandle" ∧ yX1_settle.cls ≠ "java/lang/invoke/VarHandle" ∧ (parseMethodDescriptor yX1_settle.desc).map (fun d => d.parameters.length) = some 3 := ⟨c9_X1.1, c9_X1.2, d9_12⟩
theorem cb_X2_add : yX2_add.cls ≠ "java/lang/invoke/MethodHandle" ∧ yX2_add.cls ≠ "java/lang/invoke/VarHandle" ∧ (parseMethodDescriptor yX2_add.desc).map (fun d => d.parameters.length) = some 4 := ⟨c9_X2.1, c9_X2.2, d9_15⟩
theorem cb_X2_callsBy : yX2_callsBy.cls ≠ "java/lang/invoke/MethodHandle" ∧ yX2_callsBy.cls ≠ "java/lang/invoke/VarHandle" ∧ (parseMethodDescriptor yX2_callsBy.desc).map (fun d => d.parameters.length) = some 1 := ⟨c9_X2.1, c9_X2.2, d9_5⟩
theorem cb_X2_callsTo : yX2_callsTo.cls ≠ "java/lang/invoke/MethodHandle" ∧ yX2_callsTo.cls ≠ "java/lang/invoke/VarHandle" ∧ (parseMethodDescriptor yX2_callsTo.desc).map (fun d => d.parameters.length) = some 1 := ⟨c9_X2.1, c9_X2.2, d9_5⟩
theorem cb_X2_copy : yX2_copy.cls ≠ "java/lang/invoke/MethodHandle" ∧ yX2_copy.cls ≠ "java/lang/invoke/VarHandle" ∧ (parseMethodDescriptor yX2_copy.desc).map (fun d => d.parameters.length) = some 1 := ⟨c9_X2.1, c9_X2.2, d9_31⟩
theorem cb_X2_init : yX2_init.cls ≠ "java/lang/invoke/MethodHandle" ∧ yX2_init.cls ≠ "java/lang/invoke/VarHandle" ∧ (parseMethodDescriptor yX2_init.desc).map (fun d => d.parameters.length) = some 0 := ⟨c9_X2.1, c9_X2.2, d9_2⟩
theorem cb_X2_isFull : yX2_isFull.cls ≠ "java/lang/invoke/MethodHandle" ∧ yX2_isFull.cls ≠ "java/lang/invoke/VarHandle" ∧ (parseMethodDescriptor yX2_isFull.desc).map (fun d => d.parameters.length) = some 0 := ⟨c9_X2.1, c9_X2.2, d9_3⟩
theorem cb_X3_advance : yX3_advance.cls ≠ "java/lang/invoke/MethodHandle" ∧ yX3_advance.cls ≠ "java/lang/invoke/VarHandle" ∧ (parseMethodDescriptor yX3_advance.desc).map (fun d => d.parameters.length) = some 0 := ⟨c9_X3.1, c9_X3.2, d9_2⟩
theorem cb_X3_among : yX3_among.cls ≠ "java/lang/invoke/MethodHandle" ∧ yX3_among.cls ≠ "java/lang/invoke/VarHandle" ∧ (parseMethodDescriptor yX3_among.desc).map (fun d => d.parameters.length) = some 1 := ⟨c9_X3.1, c9_X3.2, d9_41⟩
theorem cb_X3_choice : yX3_choice.cls ≠ "java/lang/invoke/MethodHandle" ∧ yX3_choice.cls ≠ "java/lang/invoke/VarHandle" ∧ (parseMethodDescriptor yX3_choice.desc).map (fun d => d.parameters.length) = some 1 := ⟨c9_X3.1, c9_X3.2, d9_41⟩
theorem cb_X3_closeLine : yX3_closeLine.cls ≠ "java/lang/invoke/MethodHandle" ∧ yX3_closeLine.cls ≠ "java/lang/invoke/VarHandle" ∧ (parseMethodDescriptor yX3_closeLine.desc).map (fun d => d.parameters.length) = some 0 := ⟨c9_X3.1, c9_X3.2, d9_2⟩
theorem cb_X3_init : yX3_init.cls ≠ "java/lang/invoke/MethodHandle" ∧ yX3_init.cls ≠ "java/lang/invoke/VarHandle" ∧ (parseMethodDescriptor yX3_init.desc).map (fun d => d.parameters.length) = some 0 := ⟨c9_X3.1, c9_X3.2, d9_2⟩
theorem cb_X3_number : yX3_number.cls ≠ "java/lang/invoke/MethodHandle" ∧ yX3_number.cls ≠ "java/lang/invoke/VarHandle" ∧ (parseMethodDescriptor yX3_number.desc).map (fun d => d.parameters.length) = some 2 := ⟨c9_X3.1, c9_X3.2, d9_9⟩
theorem cb_X3_read : yX3_read.cls ≠ "java/lang/invoke/MethodHandle" ∧ yX3_read.cls ≠ "java/lang/invoke/VarHandle" ∧ (parseMethodDescriptor yX3_read.desc).map (fun d => d.parameters.length) = some 2 := ⟨c9_X3.1, c9_X3.2, d9_46⟩
theorem cb_X3_readHouse : yX3_readHouse.cls ≠ "java/lang/invoke/MethodHandle" ∧ yX3_readHouse.cls ≠ "java/lang/invoke/VarHandle" ∧ (parseMethodDescriptor yX3_readHouse.desc).map (fun d => d.parameters.length) = some 0 := ⟨c9_X3.1, c9_X3.2, d9_2⟩
theorem cb_X3_readKnow : yX3_readKnow.cls ≠ "java/lang/invoke/MethodHandle" ∧ yX3_readKnow.cls ≠ "java/lang/invoke/VarHandle" ∧ (parseMethodDescriptor yX3_readKnow.desc).map (fun d => d.parameters.length) = some 0 := ⟨c9_X3.1, c9_X3.2, d9_2⟩
theorem cb_X3_readOther : yX3_readOther.cls ≠ "java/lang/invoke/MethodHandle" ∧ yX3_readOther.cls ≠ "java/lang/invoke/VarHandle" ∧ (parseMethodDescriptor yX3_readOther.desc).map (fun d => d.parameters.length) = some 1 := ⟨c9_X3.1, c9_X3.2, d9_7⟩
theorem cb_X3_readOwes : yX3_readOwes.cls ≠ "java/lang/invoke/MethodHandle" ∧ yX3_readOwes.cls ≠ "java/lang/invoke/VarHandle" ∧ (parseMethodDescriptor yX3_readOwes.desc).map (fun d => d.parameters.length) = some 1 := ⟨c9_X3.1, c9_X3.2, d9_7⟩
theorem cb_X3_readTests : yX3_readTests.cls ≠ "java/lang/invoke/MethodHandle" ∧ yX3_readTests.cls ≠ "java/lang/invoke/VarHandle" ∧ (parseMethodDescriptor yX3_readTests.desc).map (fun d => d.parameters.length) = some 0 := ⟨c9_X3.1, c9_X3.2, d9_2⟩
theorem cb_X3_refuse : yX3_refuse.cls ≠ "java/lang/invoke/MethodHandle" ∧ yX3_refuse.cls ≠ "java/lang/invoke/VarHandle" ∧ (parseMethodDescriptor yX3_refuse.desc).map (fun d => d.parameters.length) = some 1 := ⟨c9_X3.1, c9_X3.2, d9_7⟩
theorem cb_X3_takeNumber : yX3_takeNumber.cls ≠ "java/lang/invoke/MethodHandle" ∧ yX3_takeNumber.cls ≠ "java/lang/invoke/VarHandle" ∧ (parseMethodDescriptor yX3_takeNumber.desc).map (fun d => d.parameters.length) = some 0 := ⟨c9_X3.1, c9_X3.2, d9_2⟩
theorem cb_X3_takeWord : yX3_takeWord.cls ≠ "java/lang/invoke/MethodHandle" ∧ yX3_takeWord.cls ≠ "java/lang/invoke/VarHandle" ∧ (parseMethodDescriptor yX3_takeWord.desc).map (fun d => d.parameters.length) = some 0 := ⟨c9_X3.1, c9_X3.2, d9_2⟩
theorem cb_X3_takes : yX3_takes.cls ≠ "java/lang/invoke/MethodHandle" ∧ yX3_takes.cls ≠ "java/lang/invoke/VarHandle" ∧ (parseMethodDescriptor yX3_takes.desc).map (fun d => d.parameters.length) = some 1 := ⟨c9_X3.1, c9_X3.2, d9_43⟩
theorem cb_X4_addDay : yX4_addDay.cls ≠ "java/lang/invoke/MethodHandle" ∧ yX4_addDay.cls ≠ "java/lang/invoke/VarHandle" ∧ (parseMethodDescriptor yX4_addDay.desc).map (fun d => d.parameters.length) = some 2 := ⟨c9_X4.1, c9_X4.2, d9_10⟩
theorem cb_X4_arrival : yX4_arrival.cls ≠ "java/lang/invoke/MethodHandle" ∧ yX4_arrival.cls ≠ "java/lang/invoke/VarHandle" ∧ (parseMethodDescriptor yX4_arrival.desc).map (fun d => d.parameters.length) = some 3 := ⟨c9_X4.1, c9_X4.2, d9_12⟩
theorem cb_X4_bestSet : yX4_bestSet.cls ≠ "java/lang/invoke/MethodHandle" ∧ yX4_bestSet.cls ≠ "java/lang/invoke/VarHandle" ∧ (parseMethodDescriptor yX4_bestSet.desc).map (fun d => d.parameters.length) = some 2 := ⟨c9_X4.1, c9_X4.2, d9_33⟩
theorem cb_X4_canBeSeen : yX4_canBeSeen.cls ≠ "java/lang/invoke/MethodHandle" ∧ yX4_canBeSeen.cls ≠ "java/lang/invoke/VarHandle" ∧ (parseMethodDescriptor yX4_canBeSeen.desc).map (fun d => d.parameters.length) = some 4 := ⟨c9_X4.1, c9_X4.2, d9_37⟩
theorem cb_X4_canWalk : yX4_canWalk.cls ≠ "java/lang/invoke/MethodHandle" ∧ yX4_canWalk.cls ≠ "java/lang/invoke/VarHandle" ∧ (parseMethodDescriptor yX4_canWalk.desc).map (fun d => d.parameters.length) = some 4 := ⟨c9_X4.1, c9_X4.2, d9_38⟩
theorem cb_X4_fewestDays : yX4_fewestDays.cls ≠ "java/lang/invoke/MethodHandle" ∧ yX4_fewestDays.cls ≠ "java/lang/invoke/VarHandle" ∧ (parseMethodDescriptor yX4_fewestDays.desc).map (fun d => d.parameters.length) = some 2 := ⟨c9_X4.1, c9_X4.2, d9_33⟩
theorem cb_X4_gatherDeadlines : yX4_gatherDeadlines.cls ≠ "java/lang/invoke/MethodHandle" ∧ yX4_gatherDeadlines.cls ≠ "java/lang/invoke/VarHandle" ∧ (parseMethodDescriptor yX4_gatherDeadlines.desc).map (fun d => d.parameters.length) = some 2 := ⟨c9_X4.1, c9_X4.2, d9_34⟩
theorem cb_X4_inTime : yX4_inTime.cls ≠ "java/lang/invoke/MethodHandle" ∧ yX4_inTime.cls ≠ "java/lang/invoke/VarHandle" ∧ (parseMethodDescriptor yX4_inTime.desc).map (fun d => d.parameters.length) = some 1 := ⟨c9_X4.1, c9_X4.2, d9_5⟩
theorem cb_X4_init : yX4_init.cls ≠ "java/lang/invoke/MethodHandle" ∧ yX4_init.cls ≠ "java/lang/invoke/VarHandle" ∧ (parseMethodDescriptor yX4_init.desc).map (fun d => d.parameters.length) = some 0 := ⟨c9_X4.1, c9_X4.2, d9_2⟩
theorem cb_X4_isAtHome : yX4_isAtHome.cls ≠ "java/lang/invoke/MethodHandle" ∧ yX4_isAtHome.cls ≠ "java/lang/invoke/VarHandle" ∧ (parseMethodDescriptor yX4_isAtHome.desc).map (fun d => d.parameters.length) = some 4 := ⟨c9_X4.1, c9_X4.2, d9_37⟩
theorem cb_X4_isByCall : yX4_isByCall.cls ≠ "java/lang/invoke/MethodHandle" ∧ yX4_isByCall.cls ≠ "java/lang/invoke/VarHandle" ∧ (parseMethodDescriptor yX4_isByCall.desc).map (fun d => d.parameters.length) = some 3 := ⟨c9_X4.1, c9_X4.2, d9_36⟩
theorem cb_X4_latest : yX4_latest.cls ≠ "java/lang/invoke/MethodHandle" ∧ yX4_latest.cls ≠ "java/lang/invoke/VarHandle" ∧ (parseMethodDescriptor yX4_latest.desc).map (fun d => d.parameters.length) = some 2 := ⟨c9_X4.1, c9_X4.2, d9_9⟩
theorem cb_X4_lookAt : yX4_lookAt.cls ≠ "java/lang/invoke/MethodHandle" ∧ yX4_lookAt.cls ≠ "java/lang/invoke/VarHandle" ∧ (parseMethodDescriptor yX4_lookAt.desc).map (fun d => d.parameters.length) = some 3 := ⟨c9_X4.1, c9_X4.2, d9_35⟩
theorem cb_X4_lookAtSpots : yX4_lookAtSpots.cls ≠ "java/lang/invoke/MethodHandle" ∧ yX4_lookAtSpots.cls ≠ "java/lang/invoke/VarHandle" ∧ (parseMethodDescriptor yX4_lookAtSpots.desc).map (fun d => d.parameters.length) = some 2 := ⟨c9_X4.1, c9_X4.2, d9_34⟩
theorem cb_X4_lostBits : yX4_lostBits.cls ≠ "java/lang/invoke/MethodHandle" ∧ yX4_lostBits.cls ≠ "java/lang/invoke/VarHandle" ∧ (parseMethodDescriptor yX4_lostBits.desc).map (fun d => d.parameters.length) = some 2 := ⟨c9_X4.1, c9_X4.2, d9_33⟩
theorem cb_X4_openSpots : yX4_openSpots.cls ≠ "java/lang/invoke/MethodHandle" ∧ yX4_openSpots.cls ≠ "java/lang/invoke/VarHandle" ∧ (parseMethodDescriptor yX4_openSpots.desc).map (fun d => d.parameters.length) = some 2 := ⟨c9_X4.1, c9_X4.2, d9_33⟩
theorem cb_X4_plan : yX4_plan.cls ≠ "java/lang/invoke/MethodHandle" ∧ yX4_plan.cls ≠ "java/lang/invoke/VarHandle" ∧ (parseMethodDescriptor yX4_plan.desc).map (fun d => d.parameters.length) = some 3 := ⟨c9_X4.1, c9_X4.2, d9_35⟩
theorem cb_X4_putInOrder : yX4_putInOrder.cls ≠ "java/lang/invoke/MethodHandle" ∧ yX4_putInOrder.cls ≠ "java/lang/invoke/VarHandle" ∧ (parseMethodDescriptor yX4_putInOrder.desc).map (fun d => d.parameters.length) = some 2 := ⟨c9_X4.1, c9_X4.2, d9_10⟩
theorem cb_X4_reckonLatest : yX4_reckonLatest.cls ≠ "java/lang/invoke/MethodHandle" ∧ yX4_reckonLatest.cls ≠ "java/lang/invoke/VarHandle" ∧ (parseMethodDescriptor yX4_reckonLatest.desc).map (fun d => d.parameters.length) = some 2 := ⟨c9_X4.1, c9_X4.2, d9_10⟩
theorem cb_X4_reckonMinutes : yX4_reckonMinutes.cls ≠ "java/lang/invoke/MethodHandle" ∧ yX4_reckonMinutes.cls ≠ "java/lang/invoke/VarHandle" ∧ (parseMethodDescriptor yX4_reckonMinutes.desc).map (fun d => d.parameters.length) = some 2 := ⟨c9_X4.1, c9_X4.2, d9_10⟩
theorem cb_X4_seen : yX4_seen.cls ≠ "java/lang/invoke/MethodHandle" ∧ yX4_seen.cls ≠ "java/lang/invoke/VarHandle" ∧ (parseMethodDescriptor yX4_seen.desc).map (fun d => d.parameters.length) = some 2 := ⟨c9_X4.1, c9_X4.2, d9_9⟩
theorem cb_X4_worthOf : yX4_worthOf.cls ≠ "java/lang/invoke/MethodHandle" ∧ yX4_worthOf.cls ≠ "java/lang/invoke/VarHandle" ∧ (parseMethodDescriptor yX4_worthOf.desc).map (fun d => d.parameters.length) = some 1 := ⟨c9_X4.1, c9_X4.2, d9_5⟩
theorem cb_X5_cut : yX5_cut.cls ≠ "java/lang/invoke/MethodHandle" ∧ yX5_cut.cls ≠ "java/lang/invoke/VarHandle" ∧ (parseMethodDescriptor yX5_cut.desc).map (fun d => d.parameters.length) = some 1 := ⟨c9_X5.1, c9_X5.2, d9_22⟩
theorem cb_X5_hasRun : yX5_hasRun.cls ≠ "java/lang/invoke/MethodHandle" ∧ yX5_hasRun.cls ≠ "java/lang/invoke/VarHandle" ∧ (parseMethodDescriptor yX5_hasRun.desc).map (fun d => d.parameters.length) = some 2 := ⟨c9_X5.1, c9_X5.2, d9_11⟩
theorem cb_X5_init : yX5_init.cls ≠ "java/lang/invoke/MethodHandle" ∧ yX5_init.cls ≠ "java/lang/invoke/VarHandle" ∧ (parseMethodDescriptor yX5_init.desc).map (fun d => d.parameters.length) = some 0 := ⟨c9_X5.1, c9_X5.2, d9_2⟩
theorem cb_X5_lay : yX5_lay.cls ≠ "java/lang/invoke/MethodHandle" ∧ yX5_lay.cls ≠ "java/lang/invoke/VarHandle" ∧ (parseMethodDescriptor yX5_lay.desc).map (fun d => d.parameters.length) = some 2 := ⟨c9_X5.1, c9_X5.2, d9_10⟩
theorem cb_X5_small : yX5_small.cls ≠ "java/lang/invoke/MethodHandle" ∧ yX5_small.cls ≠ "java/lang/invoke/VarHandle" ∧ (parseMethodDescriptor yX5_small.desc).map (fun d => d.parameters.length) = some 1 := ⟨c9_X5.1, c9_X5.2, d9_5⟩
theorem cb_X6_acquaint : yX6_acquaint.cls ≠ "java/lang/invoke/MethodHandle" ∧ yX6_acquaint.cls ≠ "java/lang/invoke/VarHandle" ∧ (parseMethodDescriptor yX6_acquaint.desc).map (fun d => d.parameters.length) = some 3 := ⟨c9_X6.1, c9_X6.2, d9_48⟩
theorem cb_X6_act : yX6_act.cls ≠ "java/lang/invoke/MethodHandle" ∧ yX6_act.cls ≠ "java/lang/invoke/VarHandle" ∧ (parseMethodDescriptor yX6_act.desc).map (fun d => d.parameters.length) = some 3 := ⟨c9_X6.1, c9_X6.2, d9_12⟩
theorem cb_X6_barrier : yX6_barrier.cls ≠ "java/lang/invoke/MethodHandle" ∧ yX6_barrier.cls ≠ "java/lang/invoke/VarHandle" ∧ (parseMethodDescriptor yX6_barrier.desc).map (fun d => d.parameters.length) = some 3 := ⟨c9_X6.1, c9_X6.2, d9_12⟩
theorem cb_X6_begin : yX6_begin.cls ≠ "java/lang/invoke/MethodHandle" ∧ yX6_begin.cls ≠ "java/lang/invoke/VarHandle" ∧ (parseMethodDescriptor yX6_begin.desc).map (fun d => d.parameters.length) = some 2 := ⟨c9_X6.1, c9_X6.2, d9_40⟩
theorem cb_X6_canDrop : yX6_canDrop.cls ≠ "java/lang/invoke/MethodHandle" ∧ yX6_canDrop.cls ≠ "java/lang/invoke/VarHandle" ∧ (parseMethodDescriptor yX6_canDrop.desc).map (fun d => d.parameters.length) = some 2 := ⟨c9_X6.1, c9_X6.2, d9_11⟩
theorem cb_X6_chance : yX6_chance.cls ≠ "java/lang/invoke/MethodHandle" ∧ yX6_chance.cls ≠ "java/lang/invoke/VarHandle" ∧ (parseMethodDescriptor yX6_chance.desc).map (fun d => d.parameters.length) = some 2 := ⟨c9_X6.1, c9_X6.2, d9_9⟩
theorem cb_X6_copy : yX6_copy.cls ≠ "java/lang/invoke/MethodHandle" ∧ yX6_copy.cls ≠ "java/lang/invoke/VarHandle" ∧ (parseMethodDescriptor yX6_copy.desc).map (fun d => d.parameters.length) = some 1 := ⟨c9_X6.1, c9_X6.2, d9_32⟩
theorem cb_X6_deal : yX6_deal.cls ≠ "java/lang/invoke/MethodHandle" ∧ yX6_deal.cls ≠ "java/lang/invoke/VarHandle" ∧ (parseMethodDescriptor yX6_deal.desc).map (fun d => d.parameters.length) = some 7 := ⟨c9_X6.1, c9_X6.2, d9_30⟩
theorem cb_X6_followCalls : yX6_followCalls.cls ≠ "java/lang/invoke/MethodHandle" ∧ yX6_followCalls.cls ≠ "java/lang/invoke/VarHandle" ∧ (parseMethodDescriptor yX6_followCalls.desc).map (fun d => d.parameters.length) = some 0 := ⟨c9_X6.1, c9_X6.2, d9_2⟩
theorem cb_X6_hanging : yX6_hanging.cls ≠ "java/lang/invoke/MethodHandle" ∧ yX6_hanging.cls ≠ "java/lang/invoke/VarHandle" ∧ (parseMethodDescriptor yX6_hanging.desc).map (fun d => d.parameters.length) = some 2 := ⟨c9_X6.1, c9_X6.2, d9_9⟩
theorem cb_X6_holdsTogether : yX6_holdsTogether.cls ≠ "java/lang/invoke/MethodHandle" ∧ yX6_holdsTogether.cls ≠ "java/lang/invoke/VarHandle" ∧ (parseMethodDescriptor yX6_holdsTogether.desc).map (fun d => d.parameters.length) = some 2 := ⟨c9_X6.1, c9_X6.2, d9_11⟩
theorem cb_X6_init : yX6_init.cls ≠ "java/lang/invoke/MethodHandle" ∧ yX6_init.cls ≠ "java/lang/invoke/VarHandle" ∧ (parseMethodDescriptor yX6_init.desc).map (fun d => d.parameters.length) = some 0 := ⟨c9_X6.1, c9_X6.2, d9_2⟩
theorem cb_X6_isOpenTo : yX6_isOpenTo.cls ≠ "java/lang/invoke/MethodHandle" ∧ yX6_isOpenTo.cls ≠ "java/lang/invoke/VarHandle" ∧ (parseMethodDescriptor yX6_isOpenTo.desc).map (fun d => d.parameters.length) = some 2 := ⟨c9_X6.1, c9_X6.2, d9_11⟩
theorem cb_X6_isOwed : yX6_isOwed.cls ≠ "java/lang/invoke/MethodHandle" ∧ yX6_isOwed.cls ≠ "java/lang/invoke/VarHandle" ∧ (parseMethodDescriptor yX6_isOwed.desc).map (fun d => d.parameters.length) = some 4 := ⟨c9_X6.1, c9_X6.2, d9_29⟩
theorem cb_X6_knew : yX6_knew.cls ≠ "java/lang/invoke/MethodHandle" ∧ yX6_knew.cls ≠ "java/lang/invoke/VarHandle" ∧ (parseMethodDescriptor yX6_knew.desc).map (fun d => d.parameters.length) = some 2 := ⟨c9_X6.1, c9_X6.2, d9_9⟩
theorem cb_X6_replay : yX6_replay.cls ≠ "java/lang/invoke/MethodHandle" ∧ yX6_replay.cls ≠ "java/lang/invoke/VarHandle" ∧ (parseMethodDescriptor yX6_replay.desc).map (fun d => d.parameters.length) = some 3 := ⟨c9_X6.1, c9_X6.2, d9_27⟩
theorem cb_X6_ringBits : yX6_ringBits.cls ≠ "java/lang/invoke/MethodHandle" ∧ yX6_ringBits.cls ≠ "java/lang/invoke/VarHandle" ∧ (parseMethodDescriptor yX6_ringBits.desc).map (fun d => d.parameters.length) = some 1 := ⟨c9_X6.1, c9_X6.2, d9_5⟩
theorem cb_X6_wouldMake : yX6_wouldMake.cls ≠ "java/lang/invoke/MethodHandle" ∧ yX6_wouldMake.cls ≠ "java/lang/invoke/VarHandle" ∧ (parseMethodDescriptor yX6_wouldMake.desc).map (fun d => d.parameters.length) = some 3 := ⟨c9_X6.1, c9_X6.2, d9_12⟩
theorem cb_X7_clear : yX7_clear.cls ≠ "java/lang/invoke/MethodHandle" ∧ yX7_clear.cls ≠ "java/lang/invoke/VarHandle" ∧ (parseMethodDescriptor yX7_clear.desc).map (fun d => d.parameters.length) = some 0 := ⟨c9_X7.1, c9_X7.2, d9_2⟩
theorem cb_X7_copy : yX7_copy.cls ≠ "java/lang/invoke/MethodHandle" ∧ yX7_copy.cls ≠ "java/lang/invoke/VarHandle" ∧ (parseMethodDescriptor yX7_copy.desc).map (fun d => d.parameters.length) = some 1 := ⟨c9_X7.1, c9_X7.2, d9_39⟩
theorem cb_X7_has : yX7_has.cls ≠ "java/lang/invoke/MethodHandle" ∧ yX7_has.cls ≠ "java/lang/invoke/VarHandle" ∧ (parseMethodDescriptor yX7_has.desc).map (fun d => d.parameters.length) = some 1 := ⟨c9_X7.1, c9_X7.2, d9_8⟩
theorem cb_X7_hasPair : yX7_hasPair.cls ≠ "java/lang/invoke/MethodHandle" ∧ yX7_hasPair.cls ≠ "java/lang/invoke/VarHandle" ∧ (parseMethodDescriptor yX7_hasPair.desc).map (fun d => d.parameters.length) = some 2 := ⟨c9_X7.1, c9_X7.2, d9_11⟩
theorem cb_X7_init : yX7_init.cls ≠ "java/lang/invoke/MethodHandle" ∧ yX7_init.cls ≠ "java/lang/invoke/VarHandle" ∧ (parseMethodDescriptor yX7_init.desc).map (fun d => d.parameters.length) = some 0 := ⟨c9_X7.1, c9_X7.2, d9_2⟩
theorem cb_X7_isNew : yX7_isNew.cls ≠ "java/lang/invoke/MethodHandle" ∧ yX7_isNew.cls ≠ "java/lang/invoke/VarHandle" ∧ (parseMethodDescriptor yX7_isNew.desc).map (fun d => d.parameters.length) = some 2 := ⟨c9_X7.1, c9_X7.2, d9_11⟩
theorem cb_X7_isThere : yX7_isThere.cls ≠ "java/lang/invoke/MethodHandle" ∧ yX7_isThere.cls ≠ "java/lang/invoke/VarHandle" ∧ (parseMethodDescriptor yX7_isThere.desc).map (fun d => d.parameters.length) = some 2 := ⟨c9_X7.1, c9_X7.2, d9_11⟩
theorem cb_X7_minutes : yX7_minutes.cls ≠ "java/lang/invoke/MethodHandle" ∧ yX7_minutes.cls ≠ "java/lang/invoke/VarHandle" ∧ (parseMethodDescriptor yX7_minutes.desc).map (fun d => d.parameters.length) = some 2 := ⟨c9_X7.1, c9_X7.2, d9_9⟩
theorem cb_X7_waits : yX7_waits.cls ≠ "java/lang/invoke/MethodHandle" ∧ yX7_waits.cls ≠ "java/lang/invoke/VarHandle" ∧ (parseMethodDescriptor yX7_waits.desc).map (fun d => d.parameters.length) = some 2 := ⟨c9_X7.1, c9_X7.2, d9_11⟩
theorem cb_X8_everyoneToKnow : yX8_everyoneToKnow.cls ≠ "java/lang/invoke/MethodHandle" ∧ yX8_everyoneToKnow.cls ≠ "java/lang/invoke/VarHandle" ∧ (parseMethodDescriptor yX8_everyoneToKnow.desc).map (fun d => d.parameters.length) = some 2 := ⟨c9_X8.1, c9_X8.2, d9_33⟩
theorem cb_X8_gather : yX8_gather.cls ≠ "java/lang/invoke/MethodHandle" ∧ yX8_gather.cls ≠ "java/lang/invoke/VarHandle" ∧ (parseMethodDescriptor yX8_gather.desc).map (fun d => d.parameters.length) = some 3 := ⟨c9_X8.1, c9_X8.2, d9_35⟩
theorem cb_X8_init : yX8_init.cls ≠ "java/lang/invoke/MethodHandle" ∧ yX8_init.cls ≠ "java/lang/invoke/VarHandle" ∧ (parseMethodDescriptor yX8_init.desc).map (fun d => d.parameters.length) = some 0 := ⟨c9_X8.1, c9_X8.2, d9_2⟩
theorem cb_X8_linksOf : yX8_linksOf.cls ≠ "java/lang/invoke/MethodHandle" ∧ yX8_linksOf.cls ≠ "java/lang/invoke/VarHandle" ∧ (parseMethodDescriptor yX8_linksOf.desc).map (fun d => d.parameters.length) = some 2 := ⟨c9_X8.1, c9_X8.2, d9_33⟩
theorem cb_X8_search : yX8_search.cls ≠ "java/lang/invoke/MethodHandle" ∧ yX8_search.cls ≠ "java/lang/invoke/VarHandle" ∧ (parseMethodDescriptor yX8_search.desc).map (fun d => d.parameters.length) = some 3 := ⟨c9_X8.1, c9_X8.2, d9_35⟩
theorem cb_X8_seek : yX8_seek.cls ≠ "java/lang/invoke/MethodHandle" ∧ yX8_seek.cls ≠ "java/lang/invoke/VarHandle" ∧ (parseMethodDescriptor yX8_seek.desc).map (fun d => d.parameters.length) = some 3 := ⟨c9_X8.1, c9_X8.2, d9_35⟩
theorem cb_X8_tell : yX8_tell.cls ≠ "java/lang/invoke/MethodHandle" ∧ yX8_tell.cls ≠ "java/lang/invoke/VarHandle" ∧ (parseMethodDescriptor yX8_tell.desc).map (fun d => d.parameters.length) = some 2 := ⟨c9_X8.1, c9_X8.2, d9_10⟩
theorem cb_X9_back : yX9_back.cls ≠ "java/lang/invoke/MethodHandle" ∧ yX9_back.cls ≠ "java/lang/invoke/VarHandle" ∧ (parseMethodDescriptor yX9_back.desc).map (fun d => d.parameters.length) = some 1 := ⟨c9_X9.1, c9_X9.2, d9_5⟩
theorem cb_X9_bars : yX9_bars.cls ≠ "java/lang/invoke/MethodHandle" ∧ yX9_bars.cls ≠ "java/lang/invoke/VarHandle" ∧ (parseMethodDescriptor yX9_bars.desc).map (fun d => d.parameters.length) = some 3 := ⟨c9_X9.1, c9_X9.2, d9_12⟩
theorem cb_X9_beside : yX9_beside.cls ≠ "java/lang/invoke/MethodHandle" ∧ yX9_beside.cls ≠ "java/lang/invoke/VarHandle" ∧ (parseMethodDescriptor yX9_beside.desc).map (fun d => d.parameters.length) = some 1 := ⟨c9_X9.1, c9_X9.2, d9_5⟩
theorem cb_X9_count : yX9_count.cls ≠ "java/lang/invoke/MethodHandle" ∧ yX9_count.cls ≠ "java/lang/invoke/VarHandle" ∧ (parseMethodDescriptor yX9_count.desc).map (fun d => d.parameters.length) = some 1 := ⟨c9_X9.1, c9_X9.2, d9_5⟩
theorem cb_X9_days : yX9_days.cls ≠ "java/lang/invoke/MethodHandle" ∧ yX9_days.cls ≠ "java/lang/invoke/VarHandle" ∧ (parseMethodDescriptor yX9_days.desc).map (fun d => d.parameters.length) = some 1 := ⟨c9_X9.1, c9_X9.2, d9_5⟩
theorem cb_X9_debt : yX9_debt.cls ≠ "java/lang/invoke/MethodHandle" ∧ yX9_debt.cls ≠ "java/lang/invoke/VarHandle" ∧ (parseMethodDescriptor yX9_debt.desc).map (fun d => d.parameters.length) = some 3 := ⟨c9_X9.1, c9_X9.2, d9_12⟩
theorem cb_X9_debts : yX9_debts.cls ≠ "java/lang/invoke/MethodHandle" ∧ yX9_debts.cls ≠ "java/lang/invoke/VarHandle" ∧ (parseMethodDescriptor yX9_debts.desc).map (fun d => d.parameters.length) = some 1 := ⟨c9_X9.1, c9_X9.2, d9_5⟩
theorem cb_X9_does : yX9_does.cls ≠ "java/lang/invoke/MethodHandle" ∧ yX9_does.cls ≠ "java/lang/invoke/VarHandle" ∧ (parseMethodDescriptor yX9_does.desc).map (fun d => d.parameters.length) = some 3 := ⟨c9_X9.1, c9_X9.2, d9_12⟩
theorem cb_X9_done : yX9_done.cls ≠ "java/lang/invoke/MethodHandle" ∧ yX9_done.cls ≠ "java/lang/invoke/VarHandle" ∧ (parseMethodDescriptor yX9_done.desc).map (fun d => d.parameters.length) = some 1 := ⟨c9_X9.1, c9_X9.2, d9_5⟩
theorem cb_X9_drop : yX9_drop.cls ≠ "java/lang/invoke/MethodHandle" ∧ yX9_drop.cls ≠ "java/lang/invoke/VarHandle" ∧ (parseMethodDescriptor yX9_drop.desc).map (fun d => d.parameters.length) = some 1 := ⟨c9_X9.1, c9_X9.2, d9_5⟩
theorem cb_X9_end : yX9_end.cls ≠ "java/lang/invoke/MethodHandle" ∧ yX9_end.cls ≠ "java/lang/invoke/VarHandle" ∧ (parseMethodDescriptor yX9_end.desc).map (fun d => d.parameters.length) = some 1 := ⟨c9_X9.1, c9_X9.2, d9_5⟩
theorem cb_X9_fault : yX9_fault.cls ≠ "java/lang/invoke/MethodHandle" ∧ yX9_fault.cls ≠ "java/lang/invoke/VarHandle" ∧ (parseMethodDescriptor yX9_fault.desc).map (fun d => d.parameters.length) = some 1 := ⟨c9_X9.1, c9_X9.2, d9_5⟩
theorem cb_X9_feed : yX9_feed.cls ≠ "java/lang/invoke/MethodHandle" ∧ yX9_feed.cls ≠ "java/lang/invoke/VarHandle" ∧ (parseMethodDescriptor yX9_feed.desc).map (fun d => d.parameters.length) = some 5 := ⟨c9_X9.1, c9_X9.2, d9_16⟩
theorem cb_X9_feedNumber : yX9_feedNumber.cls ≠ "java/lang/invoke/MethodHandle" ∧ yX9_feedNumber.cls ≠ "java/lang/invoke/VarHandle" ∧ (parseMethodDescriptor yX9_feedNumber.desc).map (fun d => d.parameters.length) = some 1 := ⟨c9_X9.1, c9_X9.2, d9_7⟩
theorem cb_X9_fewest : yX9_fewest.cls ≠ "java/lang/invoke/MethodHandle" ∧ yX9_fewest.cls ≠ "java/lang/invoke/VarHandle" ∧ (parseMethodDescriptor yX9_fewest.desc).map (fun d => d.parameters.length) = some 1 := ⟨c9_X9.1, c9_X9.2, d9_5⟩
theorem cb_X9_filledSlots : yX9_filledSlots.cls ≠ "java/lang/invoke/MethodHandle" ∧ yX9_filledSlots.cls ≠ "java/lang/invoke/VarHandle" ∧ (parseMethodDescriptor yX9_filledSlots.desc).map (fun d => d.parameters.length) = some 0 := ⟨c9_X9.1, c9_X9.2, d9_1⟩
theorem cb_X9_first : yX9_first.cls ≠ "java/lang/invoke/MethodHandle" ∧ yX9_first.cls ≠ "java/lang/invoke/VarHandle" ∧ (parseMethodDescriptor yX9_first.desc).map (fun d => d.parameters.length) = some 0 := ⟨c9_X9.1, c9_X9.2, d9_1⟩
theorem cb_X9_forget : yX9_forget.cls ≠ "java/lang/invoke/MethodHandle" ∧ yX9_forget.cls ≠ "java/lang/invoke/VarHandle" ∧ (parseMethodDescriptor yX9_forget.desc).map (fun d => d.parameters.length) = some 0 := ⟨c9_X9.1, c9_X9.2, d9_2⟩
theorem cb_X9_house : yX9_house.cls ≠ "java/lang/invoke/MethodHandle" ∧ yX9_house.cls ≠ "java/lang/invoke/VarHandle" ∧ (parseMethodDescriptor yX9_house.desc).map (fun d => d.parameters.length) = some 2 := ⟨c9_X9.1, c9_X9.2, d9_9⟩
theorem cb_X9_init : yX9_init.cls ≠ "java/lang/invoke/MethodHandle" ∧ yX9_init.cls ≠ "java/lang/invoke/VarHandle" ∧ (parseMethodDescriptor yX9_init.desc).map (fun d => d.parameters.length) = some 0 := ⟨c9_X9.1, c9_X9.2, d9_2⟩
theorem cb_X9_isDeed : yX9_isDeed.cls ≠ "java/lang/invoke/MethodHandle" ∧ yX9_isDeed.cls ≠ "java/lang/invoke/VarHandle" ∧ (parseMethodDescriptor yX9_isDeed.desc).map (fun d => d.parameters.length) = some 3 := ⟨c9_X9.1, c9_X9.2, d9_13⟩
theorem cb_X9_isImage : yX9_isImage.cls ≠ "java/lang/invoke/MethodHandle" ∧ yX9_isImage.cls ≠ "java/lang/invoke/VarHandle" ∧ (parseMethodDescriptor yX9_isImage.desc).map (fun d => d.parameters.length) = some 1 := ⟨c9_X9.1, c9_X9.2, d9_8⟩
theorem cb_X9_isOuting : yX9_isOuting.cls ≠ "java/lang/invoke/MethodHandle" ∧ yX9_isOuting.cls ≠ "java/lang/invoke/VarHandle" ∧ (parseMethodDescriptor yX9_isOuting.desc).map (fun d => d.parameters.length) = some 2 := ⟨c9_X9.1, c9_X9.2, d9_11⟩
theorem cb_X9_isSlot : yX9_isSlot.cls ≠ "java/lang/invoke/MethodHandle" ∧ yX9_isSlot.cls ≠ "java/lang/invoke/VarHandle" ∧ (parseMethodDescriptor yX9_isSlot.desc).map (fun d => d.parameters.length) = some 1 := ⟨c9_X9.1, c9_X9.2, d9_8⟩
theorem cb_X9_keep : yX9_keep.cls ≠ "java/lang/invoke/MethodHandle" ∧ yX9_keep.cls ≠ "java/lang/invoke/VarHandle" ∧ (parseMethodDescriptor yX9_keep.desc).map (fun d => d.parameters.length) = some 1 := ⟨c9_X9.1, c9_X9.2, d9_5⟩
theorem cb_X9_known : yX9_known.cls ≠ "java/lang/invoke/MethodHandle" ∧ yX9_known.cls ≠ "java/lang/invoke/VarHandle" ∧ (parseMethodDescriptor yX9_known.desc).map (fun d => d.parameters.length) = some 2 := ⟨c9_X9.1, c9_X9.2, d9_9⟩
theorem cb_X9_lost : yX9_lost.cls ≠ "java/lang/invoke/MethodHandle" ∧ yX9_lost.cls ≠ "java/lang/invoke/VarHandle" ∧ (parseMethodDescriptor yX9_lost.desc).map (fun d => d.parameters.length) = some 1 := ⟨c9_X9.1, c9_X9.2, d9_5⟩
theorem cb_X9_may : yX9_may.cls ≠ "java/lang/invoke/MethodHandle" ∧ yX9_may.cls ≠ "java/lang/invoke/VarHandle" ∧ (parseMethodDescriptor yX9_may.desc).map (fun d => d.parameters.length) = some 3 := ⟨c9_X9.1, c9_X9.2, d9_12⟩
theorem cb_X9_meet : yX9_meet.cls ≠ "java/lang/invoke/MethodHandle" ∧ yX9_meet.cls ≠ "java/lang/invoke/VarHandle" ∧ (parseMethodDescriptor yX9_meet.desc).map (fun d => d.parameters.length) = some 2 := ⟨c9_X9.1, c9_X9.2, d9_9⟩
theorem cb_X9_over : yX9_over.cls ≠ "java/lang/invoke/MethodHandle" ∧ yX9_over.cls ≠ "java/lang/invoke/VarHandle" ∧ (parseMethodDescriptor yX9_over.desc).map (fun d => d.parameters.length) = some 2 := ⟨c9_X9.1, c9_X9.2, d9_9⟩
theorem cb_X9_owes : yX9_owes.cls ≠ "java/lang/invoke/MethodHandle" ∧ yX9_owes.cls ≠ "java/lang/invoke/VarHandle" ∧ (parseMethodDescriptor yX9_owes.desc).map (fun d => d.parameters.length) = some 3 := ⟨c9_X9.1, c9_X9.2, d9_12⟩
theorem cb_X9_paste : yX9_paste.cls ≠ "java/lang/invoke/MethodHandle" ∧ yX9_paste.cls ≠ "java/lang/invoke/VarHandle" ∧ (parseMethodDescriptor yX9_paste.desc).map (fun d => d.parameters.length) = some 5 := ⟨c9_X9.1, c9_X9.2, d9_16⟩
theorem cb_X9_path : yX9_path.cls ≠ "java/lang/invoke/MethodHandle" ∧ yX9_path.cls ≠ "java/lang/invoke/VarHandle" ∧ (parseMethodDescriptor yX9_path.desc).map (fun d => d.parameters.length) = some 3 := ⟨c9_X9.1, c9_X9.2, d9_12⟩
theorem cb_X9_reach : yX9_reach.cls ≠ "java/lang/invoke/MethodHandle" ∧ yX9_reach.cls ≠ "java/lang/invoke/VarHandle" ∧ (parseMethodDescriptor yX9_reach.desc).map (fun d => d.parameters.length) = some 1 := ⟨c9_X9.1, c9_X9.2, d9_5⟩
theorem cb_X9_ring : yX9_ring.cls ≠ "java/lang/invoke/MethodHandle" ∧ yX9_ring.cls ≠ "java/lang/invoke/VarHandle" ∧ (parseMethodDescriptor yX9_ring.desc).map (fun d => d.parameters.length) = some 1 := ⟨c9_X9.1, c9_X9.2, d9_5⟩
theorem cb_X9_rings : yX9_rings.cls ≠ "java/lang/invoke/MethodHandle" ∧ yX9_rings.cls ≠ "java/lang/invoke/VarHandle" ∧ (parseMethodDescriptor yX9_rings.desc).map (fun d => d.parameters.length) = some 0 := ⟨c9_X9.1, c9_X9.2, d9_1⟩
theorem cb_X9_round : yX9_round.cls ≠ "java/lang/invoke/MethodHandle" ∧ yX9_round.cls ≠ "java/lang/invoke/VarHandle" ∧ (parseMethodDescriptor yX9_round.desc).map (fun d => d.parameters.length) = some 3 := ⟨c9_X9.1, c9_X9.2, d9_12⟩
theorem cb_X9_row : yX9_row.cls ≠ "java/lang/invoke/MethodHandle" ∧ yX9_row.cls ≠ "java/lang/invoke/VarHandle" ∧ (parseMethodDescriptor yX9_row.desc).map (fun d => d.parameters.length) = some 3 := ⟨c9_X9.1, c9_X9.2, d9_12⟩
theorem cb_X9_slights : yX9_slights.cls ≠ "java/lang/invoke/MethodHandle" ∧ yX9_slights.cls ≠ "java/lang/invoke/VarHandle" ∧ (parseMethodDescriptor yX9_slights.desc).map (fun d => d.parameters.length) = some 1 := ⟨c9_X9.1, c9_X9.2, d9_5⟩
theorem cb_X9_soon : yX9_soon.cls ≠ "java/lang/invoke/MethodHandle" ∧ yX9_soon.cls ≠ "java/lang/invoke/VarHandle" ∧ (parseMethodDescriptor yX9_soon.desc).map (fun d => d.parameters.length) = some 2 := ⟨c9_X9.1, c9_X9.2, d9_9⟩
theorem cb_X9_tie : yX9_tie.cls ≠ "java/lang/invoke/MethodHandle" ∧ yX9_tie.cls ≠ "java/lang/invoke/VarHandle" ∧ (parseMethodDescriptor yX9_tie.desc).map (fun d => d.parameters.length) = some 2 := ⟨c9_X9.1, c9_X9.2, d9_9⟩
theorem cb_X9_town : yX9_town.cls ≠ "java/lang/invoke/MethodHandle" ∧ yX9_town.cls ≠ "java/lang/invoke/VarHandle" ∧ (parseMethodDescriptor yX9_town.desc).map (fun d => d.parameters.length) = some 0 := ⟨c9_X9.1, c9_X9.2, d9_1⟩
theorem cb_X9_worth : yX9_worth.cls ≠ "java/lang/invoke/MethodHandle" ∧ yX9_worth.cls ≠ "java/lang/invoke/VarHandle" ∧ (parseMethodDescriptor yX9_worth.desc).map (fun d => d.parameters.length) = some 2 := ⟨c9_X9.1, c9_X9.2, d9_9⟩
theorem cb_X9_write : yX9_write.cls ≠ "java/lang/invoke/MethodHandle" ∧ yX9_write.cls ≠ "java/lang/invoke/VarHandle" ∧ (parseMethodDescriptor yX9_write.desc).map (fun d => d.parameters.length) = some 3 := ⟨c9_X9.1, c9_X9.2, d9_20⟩
theorem f9_0 : parseFieldDescriptor "I" = some .int := by decide +kernel
theorem f9_1 : parseFieldDescriptor "LCardBowl$Code;" = some (.object "CardBowl$Code") := by decide +kernel
theorem f9_2 : parseFieldDescriptor "LCardBowl$Debts;" = some (.object "CardBowl$Debts") := by decide +kernel
theorem f9_3 : parseFieldDescriptor "LCardBowl$Deeds;" = some (.object "CardBowl$Deeds") := by decide +kernel
theorem f9_4 : parseFieldDescriptor "LCardBowl$Reader;" = some (.object "CardBowl$Reader") := by decide +kernel
theorem f9_5 : parseFieldDescriptor "LCardBowl$Rounds;" = some (.object "CardBowl$Rounds") := by decide +kernel
theorem f9_6 : parseFieldDescriptor "LCardBowl$State;" = some (.object "CardBowl$State") := by decide +kernel
theorem f9_7 : parseFieldDescriptor "LCardBowl$Town;" = some (.object "CardBowl$Town") := by decide +kernel
theorem f9_8 : parseFieldDescriptor "LCardBowl$Ways;" = some (.object "CardBowl$Ways") := by decide +kernel
theorem f9_9 : parseFieldDescriptor "Z" = some .boolean := by decide +kernel
theorem f9_10 : parseFieldDescriptor "[B" = some (.array .byte) := by decide +kernel
theorem f9_11 : parseFieldDescriptor "[I" = some (.array .int) := by decide +kernel
theorem f9_12 : parseFieldDescriptor "[J" = some (.array .long) := by decide +kernel
theorem f9_13 : parseFieldDescriptor "[LCardBowl$Slot;" = some (.array (.object "CardBowl$Slot")) := by decide +kernel
theorem f9_14 : parseFieldDescriptor "[LCardBowl$State;" = some (.array (.object "CardBowl$State")) := by decide +kernel
theorem f9_15 : parseFieldDescriptor "[Z" = some (.array .boolean) := by decide +kernel
theorem fd_X0_0 : parseFieldDescriptor (TX0 0).2.2.1 = some .int := f9_0
theorem fd_X0_1 : parseFieldDescriptor (TX0 1).2.2.1 = some .int := f9_0
theorem fd_X0_2 : parseFieldDescriptor (TX0 2).2.2.1 = some (.array .int) := f9_11
theorem fd_X0_3 : parseFieldDescriptor (TX0 3).2.2.1 = some (.array .int) := f9_11
theorem fd_X0_4 : parseFieldDescriptor (TX0 4).2.2.1 = some (.array .int) := f9_11
theorem fd_X0_5 : parseFieldDescriptor (TX0 5).2.2.1 = some (.array .int) := f9_11
theorem fd_X0_6 : parseFieldDescriptor (TX0 6).2.2.1 = some (.array .int) := f9_11
theorem fd_X0_7 : parseFieldDescriptor (TX0 7).2.2.1 = some (.array .int) := f9_11
theorem fd_X0_8 : parseFieldDescriptor (TX0 8).2.2.1 = some (.array .int) := f9_11
theorem fd_X0_9 : parseFieldDescriptor (TX0 9).2.2.1 = some .boolean := f9_9
theorem fd_X10_1 : parseFieldDescriptor (TX10 1).2.2.1 = some (.array .int) := f9_11
theorem fd_X10_10 : parseFieldDescriptor (TX10 10).2.2.1 = some .int := f9_0
theorem fd_X10_11 : parseFieldDescriptor (TX10 11).2.2.1 = some .int := f9_0
theorem fd_X10_12 : parseFieldDescriptor (TX10 12).2.2.1 = some .int := f9_0
theorem fd_X10_13 : parseFieldDescriptor (TX10 13).2.2.1 = some .int := f9_0
theorem fd_X10_14 : parseFieldDescriptor (TX10 14).2.2.1 = some (.array .int) := f9_11
theorem fd_X10_15 : parseFieldDescriptor (TX10 15).2.2.1 = some (.array .int) := f9_11
theorem fd_X10_16 : parseFieldDescriptor (TX10 16).2.2.1 = some (.array .int) := f9_11
theorem fd_X10_17 : parseFieldDescriptor (TX10 17).2.2.1 = some .int := f9_0
theorem fd_X10_18 : parseFieldDescriptor (TX10 18).2.2.1 = some (.array .int) := f9_11
theorem fd_X10_19 : parseFieldDescriptor (TX10 19).2.2.1 = some (.array .boolean) := f9_15
theorem fd_X10_2 : parseFieldDescriptor (TX10 2).2.2.1 = some (.array .int) := f9_11
theorem fd_X10_20 : parseFieldDescriptor (TX10 20).2.2.1 = some (.array .int) := f9_11
theorem fd_X10_21 : parseFieldDescriptor (TX10 21).2.2.1 = some .int := f9_0
theorem fd_X10_22 : parseFieldDescriptor (TX10 22).2.2.1 = some .int := f9_0
theorem fd_X10_23 : parseFieldDescriptor (TX10 23).2.2.1 = some .int := f9_0
theorem fd_X10_24 : parseFieldDescriptor (TX10 24).2.2.1 = some (.array .int) := f9_11
theorem fd_X10_25 : parseFieldDescriptor (TX10 25).2.2.1 = some (.array .int) := f9_11
theorem fd_X10_26 : parseFieldDescriptor (TX10 26).2.2.1 = some .int := f9_0
theorem fd_X10_27 : parseFieldDescriptor (TX10 27).2.2.1 = some (.array .int) := f9_11
theorem fd_X10_28 : parseFieldDescriptor (TX10 28).2.2.1 = some (.array .int) := f9_11
theorem fd_X10_29 : parseFieldDescriptor (TX10 29).2.2.1 = some (.array .int) := f9_11
theorem fd_X10_3 : parseFieldDescriptor (TX10 3).2.2.1 = some (.array .boolean) := f9_15
theorem fd_X10_30 : parseFieldDescriptor (TX10 30).2.2.1 = some (.array .int) := f9_11
theorem fd_X10_31 : parseFieldDescriptor (TX10 31).2.2.1 = some (.array .int) := f9_11
theorem fd_X10_32 : parseFieldDescriptor (TX10 32).2.2.1 = some (.array .boolean) := f9_15
theorem fd_X10_33 : parseFieldDescriptor (TX10 33).2.2.1 = some (.array .int) := f9_11
theorem fd_X10_34 : parseFieldDescriptor (TX10 34).2.2.1 = some .int := f9_0
theorem fd_X10_35 : parseFieldDescriptor (TX10 35).2.2.1 = some (.array .int) := f9_11
theorem fd_X10_36 : parseFieldDescriptor (TX10 36).2.2.1 = some (.array .int) := f9_11
theorem fd_X10_37 : parseFieldDescriptor (TX10 37).2.2.1 = some (.array .int) := f9_11
theorem fd_X10_38 : parseFieldDescriptor (TX10 38).2.2.1 = some (.array .int) := f9_11
theorem fd_X10_39 : parseFieldDescriptor (TX10 39).2.2.1 = some (.array .long) := f9_12
theorem fd_X10_4 : parseFieldDescriptor (TX10 4).2.2.1 = some (.array .byte) := f9_10
theorem fd_X10_40 : parseFieldDescriptor (TX10 40).2.2.1 = some (.array .long) := f9_12
theorem fd_X10_5 : parseFieldDescriptor (TX10 5).2.2.1 = some .int := f9_0
theorem fd_X10_6 : parseFieldDescriptor (TX10 6).2.2.1 = some (.array .int) := f9_11
theorem fd_X10_7 : parseFieldDescriptor (TX10 7).2.2.1 = some .int := f9_0
theorem fd_X10_8 : parseFieldDescriptor (TX10 8).2.2.1 = some .int := f9_0
theorem fd_X10_9 : parseFieldDescriptor (TX10 9).2.2.1 = some .int := f9_0
theorem fd_X1_0 : parseFieldDescriptor (TX1 0).2.2.1 = some .int := f9_0
theorem fd_X1_1 : parseFieldDescriptor (TX1 1).2.2.1 = some (.array .int) := f9_11
theorem fd_X1_2 : parseFieldDescriptor (TX1 2).2.2.1 = some (.array .int) := f9_11
theorem fd_X1_3 : parseFieldDescriptor (TX1 3).2.2.1 = some (.array .int) := f9_11
theorem fd_X1_4 : parseFieldDescriptor (TX1 4).2.2.1 = some (.array .int) := f9_11
theorem fd_X1_5 : parseFieldDescriptor (TX1 5).2.2.1 = some (.array .int) := f9_11
theorem fd_X1_6 : parseFieldDescriptor (TX1 6).2.2.1 = some (.array .int) := f9_11
theorem fd_X1_7 : parseFieldDescriptor (TX1 7).2.2.1 = some (.array .int) := f9_11
theorem fd_X2_0 : parseFieldDescriptor (TX2 0).2.2.1 = some .int := f9_0
theorem fd_X2_1 : parseFieldDescriptor (TX2 1).2.2.1 = some (.array .int) := f9_11
theorem fd_X2_2 : parseFieldDescriptor (TX2 2).2.2.1 = some (.array .int) := f9_11
theorem fd_X2_3 : parseFieldDescriptor (TX2 3).2.2.1 = some (.array .int) := f9_11
theorem fd_X2_4 : parseFieldDescriptor (TX2 4).2.2.1 = some (.array .int) := f9_11
theorem fd_X3_0 : parseFieldDescriptor (TX3 0).2.2.1 = some (.object "CardBowl$Town") := f9_7
theorem fd_X3_1 : parseFieldDescriptor (TX3 1).2.2.1 = some (.object "CardBowl$Code") := f9_1
theorem fd_X3_2 : parseFieldDescriptor (TX3 2).2.2.1 = some .int := f9_0
theorem fd_X3_3 : parseFieldDescriptor (TX3 3).2.2.1 = some .int := f9_0
theorem fd_X3_4 : parseFieldDescriptor (TX3 4).2.2.1 = some (.array .byte) := f9_10
theorem fd_X3_5 : parseFieldDescriptor (TX3 5).2.2.1 = some .int := f9_0
theorem fd_X3_6 : parseFieldDescriptor (TX3 6).2.2.1 = some .int := f9_0
theorem fd_X3_7 : parseFieldDescriptor (TX3 7).2.2.1 = some .int := f9_0
theorem fd_X3_8 : parseFieldDescriptor (TX3 8).2.2.1 = some .int := f9_0
theorem fd_X3_9 : parseFieldDescriptor (TX3 9).2.2.1 = some .int := f9_0
theorem fd_X4_0 : parseFieldDescriptor (TX4 0).2.2.1 = some .boolean := f9_9
theorem fd_X4_1 : parseFieldDescriptor (TX4 1).2.2.1 = some .int := f9_0
theorem fd_X4_10 : parseFieldDescriptor (TX4 10).2.2.1 = some (.array .int) := f9_11
theorem fd_X4_11 : parseFieldDescriptor (TX4 11).2.2.1 = some (.array .int) := f9_11
theorem fd_X4_12 : parseFieldDescriptor (TX4 12).2.2.1 = some (.array .int) := f9_11
theorem fd_X4_13 : parseFieldDescriptor (TX4 13).2.2.1 = some (.array .int) := f9_11
theorem fd_X4_14 : parseFieldDescriptor (TX4 14).2.2.1 = some (.array .int) := f9_11
theorem fd_X4_15 : parseFieldDescriptor (TX4 15).2.2.1 = some (.array .int) := f9_11
theorem fd_X4_16 : parseFieldDescriptor (TX4 16).2.2.1 = some (.array .int) := f9_11
theorem fd_X4_2 : parseFieldDescriptor (TX4 2).2.2.1 = some .int := f9_0
theorem fd_X4_3 : parseFieldDescriptor (TX4 3).2.2.1 = some .int := f9_0
theorem fd_X4_4 : parseFieldDescriptor (TX4 4).2.2.1 = some (.array .int) := f9_11
theorem fd_X4_5 : parseFieldDescriptor (TX4 5).2.2.1 = some .int := f9_0
theorem fd_X4_6 : parseFieldDescriptor (TX4 6).2.2.1 = some .int := f9_0
theorem fd_X4_7 : parseFieldDescriptor (TX4 7).2.2.1 = some .int := f9_0
theorem fd_X4_8 : parseFieldDescriptor (TX4 8).2.2.1 = some (.array .int) := f9_11
theorem fd_X4_9 : parseFieldDescriptor (TX4 9).2.2.1 = some (.array .int) := f9_11
theorem fd_X5_0 : parseFieldDescriptor (TX5 0).2.2.1 = some .boolean := f9_9
theorem fd_X5_1 : parseFieldDescriptor (TX5 1).2.2.1 = some .int := f9_0
theorem fd_X5_2 : parseFieldDescriptor (TX5 2).2.2.1 = some .int := f9_0
theorem fd_X5_3 : parseFieldDescriptor (TX5 3).2.2.1 = some (.array .long) := f9_12
theorem fd_X6_0 : parseFieldDescriptor (TX6 0).2.2.1 = some (.object "CardBowl$Town") := f9_7
theorem fd_X6_1 : parseFieldDescriptor (TX6 1).2.2.1 = some (.object "CardBowl$Code") := f9_1
theorem fd_X6_2 : parseFieldDescriptor (TX6 2).2.2.1 = some (.object "CardBowl$Debts") := f9_2
theorem fd_X6_3 : parseFieldDescriptor (TX6 3).2.2.1 = some (.object "CardBowl$Deeds") := f9_3
theorem fd_X6_4 : parseFieldDescriptor (TX6 4).2.2.1 = some (.array .int) := f9_11
theorem fd_X6_5 : parseFieldDescriptor (TX6 5).2.2.1 = some .int := f9_0
theorem fd_X6_6 : parseFieldDescriptor (TX6 6).2.2.1 = some .int := f9_0
theorem fd_X6_7 : parseFieldDescriptor (TX6 7).2.2.1 = some (.array .int) := f9_11
theorem fd_X7_0 : parseFieldDescriptor (TX7 0).2.2.1 = some .int := f9_0
theorem fd_X7_1 : parseFieldDescriptor (TX7 1).2.2.1 = some .int := f9_0
theorem fd_X7_10 : parseFieldDescriptor (TX7 10).2.2.1 = some (.array .int) := f9_11
theorem fd_X7_11 : parseFieldDescriptor (TX7 11).2.2.1 = some (.array .int) := f9_11
theorem fd_X7_2 : parseFieldDescriptor (TX7 2).2.2.1 = some .int := f9_0
theorem fd_X7_3 : parseFieldDescriptor (TX7 3).2.2.1 = some (.array .int) := f9_11
theorem fd_X7_4 : parseFieldDescriptor (TX7 4).2.2.1 = some (.array .int) := f9_11
theorem fd_X7_5 : parseFieldDescriptor (TX7 5).2.2.1 = some (.array .int) := f9_11
theorem fd_X7_6 : parseFieldDescriptor (TX7 6).2.2.1 = some (.array .int) := f9_11
theorem fd_X7_7 : parseFieldDescriptor (TX7 7).2.2.1 = some (.array .int) := f9_11
theorem fd_X7_8 : parseFieldDescriptor (TX7 8).2.2.1 = some (.array .int) := f9_11
theorem fd_X7_9 : parseFieldDescriptor (TX7 9).2.2.1 = some (.array .int) := f9_11
theorem fd_X8_0 : parseFieldDescriptor (TX8 0).2.2.1 = some .boolean := f9_9
theorem fd_X8_1 : parseFieldDescriptor (TX8 1).2.2.1 = some .int := f9_0
theorem fd_X8_10 : parseFieldDescriptor (TX8 10).2.2.1 = some (.array .int) := f9_11
theorem fd_X8_2 : parseFieldDescriptor (TX8 2).2.2.1 = some (.array .int) := f9_11
theorem fd_X8_3 : parseFieldDescriptor (TX8 3).2.2.1 = some .int := f9_0
theorem fd_X8_4 : parseFieldDescriptor (TX8 4).2.2.1 = some .int := f9_0
theorem fd_X8_5 : parseFieldDescriptor (TX8 5).2.2.1 = some .int := f9_0
theorem fd_X8_6 : parseFieldDescriptor (TX8 6).2.2.1 = some (.array .int) := f9_11
theorem fd_X8_7 : parseFieldDescriptor (TX8 7).2.2.1 = some (.array .int) := f9_11
theorem fd_X8_8 : parseFieldDescriptor (TX8 8).2.2.1 = some (.array .int) := f9_11
theorem fd_X8_9 : parseFieldDescriptor (TX8 9).2.2.1 = some (.array .int) := f9_11
theorem fd_X9_0 : parseFieldDescriptor (TX9 0).2.2.1 = some (.array .byte) := f9_10
theorem fd_X9_1 : parseFieldDescriptor (TX9 1).2.2.1 = some .int := f9_0
theorem fd_X9_2 : parseFieldDescriptor (TX9 2).2.2.1 = some (.object "CardBowl$Reader") := f9_4
theorem fd_X9_3 : parseFieldDescriptor (TX9 3).2.2.1 = some (.object "CardBowl$State") := f9_6
theorem fd_X9_4 : parseFieldDescriptor (TX9 4).2.2.1 = some (.array (.object "CardBowl$State")) := f9_14
theorem fd_X9_5 : parseFieldDescriptor (TX9 5).2.2.1 = some (.array (.object "CardBowl$Slot")) := f9_13
theorem fd_X9_6 : parseFieldDescriptor (TX9 6).2.2.1 = some (.object "CardBowl$Rounds") := f9_5
theorem fd_X9_7 : parseFieldDescriptor (TX9 7).2.2.1 = some (.object "CardBowl$Ways") := f9_8
theorem fd_X9_8 : parseFieldDescriptor (TX9 8).2.2.1 = some (.object "CardBowl$Debts") := f9_2
theorem fd_X9_9 : parseFieldDescriptor (TX9 9).2.2.1 = some (.array .int) := f9_11
theorem sl_CardBowlModel_183 : ((("CardBowlModel", 183, "sun", 39) : String × Nat × String × Nat)) ∈ sL := by decide +kernel
theorem sl_CardBowlModel_185 : ((("CardBowlModel", 185, "mon", 40) : String × Nat × String × Nat)) ∈ sL := by decide +kernel
theorem sl_CardBowlModel_187 : ((("CardBowlModel", 187, "tue", 41) : String × Nat × String × Nat)) ∈ sL := by decide +kernel
theorem sl_CardBowlModel_189 : ((("CardBowlModel", 189, "wed", 42) : String × Nat × String × Nat)) ∈ sL := by decide +kernel
theorem sl_CardBowlModel_191 : ((("CardBowlModel", 191, "thu", 43) : String × Nat × String × Nat)) ∈ sL := by decide +kernel
theorem sl_CardBowlModel_193 : ((("CardBowlModel", 193, "fri", 44) : String × Nat × String × Nat)) ∈ sL := by decide +kernel
theorem sl_CardBowlModel_195 : ((("CardBowlModel", 195, "sat", 45) : String × Nat × String × Nat)) ∈ sL := by decide +kernel
theorem sl_CardBowlModel_197 : ((("CardBowlModel", 197, "sent", 13) : String × Nat × String × Nat)) ∈ sL := by decide +kernel
theorem sl_CardBowlModel_199 : ((("CardBowlModel", 199, "card", 14) : String × Nat × String × Nat)) ∈ sL := by decide +kernel
theorem sl_CardBowlModel_201 : ((("CardBowlModel", 201, "call", 15) : String × Nat × String × Nat)) ∈ sL := by decide +kernel
theorem sl_CardBowlModel_203 : ((("CardBowlModel", 203, "dinner", 16) : String × Nat × String × Nat)) ∈ sL := by decide +kernel
theorem sl_CardBowlModel_205 : ((("CardBowlModel", 205, "at", 36) : String × Nat × String × Nat)) ∈ sL := by decide +kernel
theorem sl_CardBowlModel_210 : ((("CardBowlModel", 210, "rank", 37) : String × Nat × String × Nat)) ∈ sL := by decide +kernel
theorem sl_CardBowlModel_212 : ((("CardBowlModel", 212, "home", 38) : String × Nat × String × Nat)) ∈ sL := by decide +kernel
theorem sl_CardBowlModel_220 : ((("CardBowlModel", 220, "came", 46) : String × Nat × String × Nat)) ∈ sL := by decide +kernel
theorem sl_CardBowlModel_222 : ((("CardBowlModel", 222, "bride", 47) : String × Nat × String × Nat)) ∈ sL := by decide +kernel
theorem sl_CardBowlModel_224 : ((("CardBowlModel", 224, "mine", 24) : String × Nat × String × Nat)) ∈ sL := by decide +kernel
theorem sl_CardBowlModel_226 : ((("CardBowlModel", 226, "theirs", 25) : String × Nat × String × Nat)) ∈ sL := by decide +kernel
theorem sl_CardBowlModel_228 : ((("CardBowlModel", 228, "debts", 26) : String × Nat × String × Nat)) ∈ sL := by decide +kernel
theorem sl_CardBowlModel_230 : ((("CardBowlModel", 230, "day", 27) : String × Nat × String × Nat)) ∈ sL := by decide +kernel
theorem sl_CardBowlModel_232 : ((("CardBowlModel", 232, "known", 28) : String × Nat × String × Nat)) ∈ sL := by decide +kernel
theorem sl_CardBowlModel_237 : ((("CardBowlModel", 237, "plus", 29) : String × Nat × String × Nat)) ∈ sL := by decide +kernel
theorem sl_CardBowlModel_239 : ((("CardBowlModel", 239, "minus", 30) : String × Nat × String × Nat)) ∈ sL := by decide +kernel
theorem sl_CardBowlModel_241 : ((("CardBowlModel", 241, "times", 31) : String × Nat × String × Nat)) ∈ sL := by decide +kernel
theorem sl_CardBowlModel_246 : ((("CardBowlModel", 246, "more", 32) : String × Nat × String × Nat)) ∈ sL := by decide +kernel
theorem sl_CardBowlModel_248 : ((("CardBowlModel", 248, "less", 33) : String × Nat × String × Nat)) ∈ sL := by decide +kernel
theorem sl_CardBowlModel_250 : ((("CardBowlModel", 250, "same", 34) : String × Nat × String × Nat)) ∈ sL := by decide +kernel
theorem sl_CardBowlModel_255 : ((("CardBowlModel", 255, "owes", 21) : String × Nat × String × Nat)) ∈ sL := by decide +kernel
theorem sl_CardBowlModel_257 : ((("CardBowlModel", 257, "within", 22) : String × Nat × String × Nat)) ∈ sL := by decide +kernel
theorem sl_CardBowlModel_259 : ((("CardBowlModel", 259, "if", 23) : String × Nat × String × Nat)) ∈ sL := by decide +kernel
theorem sl_CardBowlModel_264 : ((("CardBowlModel", 264, "and", 35) : String × Nat × String × Nat)) ∈ sL := by decide +kernel
theorem sl_CardBowlModel_266 : ((("CardBowlModel", 266, "house", 17) : String × Nat × String × Nat)) ∈ sL := by decide +kernel
theorem sl_CardBowlModel_268 : ((("CardBowlModel", 268, "know", 18) : String × Nat × String × Nat)) ∈ sL := by decide +kernel
theorem sl_CardBowlModel_270 : ((("CardBowlModel", 270, "new", 19) : String × Nat × String × Nat)) ∈ sL := by decide +kernel
theorem sl_CardBowlModel_272 : ((("CardBowlModel", 272, "introduce", 20) : String × Nat × String × Nat)) ∈ sL := by decide +kernel
theorem sl_CardBowl_Reader_107 : ((("CardBowl$Reader", 107, "rank", 8) : String × Nat × String × Nat)) ∈ sL := by decide +kernel
theorem sl_CardBowl_Reader_111 : ((("CardBowl$Reader", 111, "home", 9) : String × Nat × String × Nat)) ∈ sL := by decide +kernel
theorem sl_CardBowl_Reader_116 : ((("CardBowl$Reader", 116, "sun mon tue wed thu fri sat", 10) : String × Nat × String × Nat)) ∈ sL := by decide +kernel
theorem sl_CardBowl_Reader_127 : ((("CardBowl$Reader", 127, "came", 11) : String × Nat × String × Nat)) ∈ sL := by decide +kernel
theorem sl_CardBowl_Reader_135 : ((("CardBowl$Reader", 135, "bride", 12) : String × Nat × String × Nat)) ∈ sL := by decide +kernel
theorem sl_CardBowl_Reader_145 : ((("CardBowl$Reader", 145, "owes", 1) : String × Nat × String × Nat)) ∈ sL := by decide +kernel
theorem sl_CardBowl_Reader_152 : ((("CardBowl$Reader", 152, "sent card call dinner", 2) : String × Nat × String × Nat)) ∈ sL := by decide +kernel
theorem sl_CardBowl_Reader_154 : ((("CardBowl$Reader", 154, "within", 3) : String × Nat × String × Nat)) ∈ sL := by decide +kernel
theorem sl_CardBowl_Reader_164 : ((("CardBowl$Reader", 164, "if", 4) : String × Nat × String × Nat)) ∈ sL := by decide +kernel
theorem sl_CardBowl_Reader_172 : ((("CardBowl$Reader", 172, "mine theirs debts day known", 5) : String × Nat × String × Nat)) ∈ sL := by decide +kernel
theorem sl_CardBowl_Reader_177 : ((("CardBowl$Reader", 177, "plus minus times more less same and", 6) : String × Nat × String × Nat)) ∈ sL := by decide +kernel
theorem sl_CardBowl_Reader_58 : ((("CardBowl$Reader", 58, "house know new introduce sent card call dinner", 0) : String × Nat × String × Nat)) ∈ sL := by decide +kernel
theorem sl_CardBowl_Reader_95 : ((("CardBowl$Reader", 95, "at", 7) : String × Nat × String × Nat)) ∈ sL := by decide +kernel
