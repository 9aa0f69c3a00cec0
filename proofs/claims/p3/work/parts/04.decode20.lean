theorem dX10_placeOf_45 : decode cX10_placeOf 45 = .ok (.goto (-40), 3) := by decide +kernel
theorem dX10_placeOf_48 : decode cX10_placeOf 48 = .ok (.iconst (-1), 1) := by decide +kernel
theorem dX10_placeOf_49 : decode cX10_placeOf 49 = .ok (.ireturn, 1) := by decide +kernel
theorem dX10_debt_0 : decode cX10_debt 0 = .ok (.aload_n 0, 1) := by decide +kernel
theorem dX10_debt_1 : decode cX10_debt 1 = .ok (.iload_n 1, 1) := by decide +kernel
theorem dX10_debt_2 : decode cX10_debt 2 = .ok (.invokevirtual 105, 3) := by decide +kernel
theorem dX10_debt_5 : decode cX10_debt 5 = .ok (.ifCond .eq 19, 3) := by decide +kernel
theorem dX10_debt_8 : decode cX10_debt 8 = .ok (.iload_n 2, 1) := by decide +kernel
theorem dX10_debt_9 : decode cX10_debt 9 = .ok (.ifCond .lt 15, 3) := by decide +kernel
theorem dX10_debt_12 : decode cX10_debt 12 = .ok (.iload_n 3, 1) := by decide +kernel
theorem dX10_debt_13 : decode cX10_debt 13 = .ok (.i2l, 1) := by decide +kernel
theorem dX10_debt_14 : decode cX10_debt 14 = .ok (.lconst 0, 1) := by decide +kernel
theorem dX10_debt_15 : decode cX10_debt 15 = .ok (.ldc2_w 313, 3) := by decide +kernel
theorem dX10_debt_18 : decode cX10_debt 18 = .ok (.invokestatic 101, 3) := by decide +kernel
theorem dX10_debt_21 : decode cX10_debt 21 = .ok (.ifCond .ne 5, 3) := by decide +kernel
theorem dX10_debt_24 : decode cX10_debt 24 = .ok (.iconst (-1), 1) := by decide +kernel
theorem dX10_debt_25 : decode cX10_debt 25 = .ok (.ireturn, 1) := by decide +kernel
theorem dX10_debt_26 : decode cX10_debt 26 = .ok (.aload_n 0, 1) := by decide +kernel
theorem dX10_debt_27 : decode cX10_debt 27 = .ok (.iload_n 1, 1) := by decide +kernel
theorem dX10_debt_28 : decode cX10_debt 28 = .ok (.iload_n 2, 1) := by decide +kernel
theorem dX10_debt_29 : decode cX10_debt 29 = .ok (.invokevirtual 384, 3) := by decide +kernel
theorem dX10_debt_32 : decode cX10_debt 32 = .ok (.istore 4, 2) := by decide +kernel
theorem dX10_debt_34 : decode cX10_debt 34 = .ok (.iload 4, 2) := by decide +kernel
theorem dX10_debt_36 : decode cX10_debt 36 = .ok (.iconst (-1), 1) := by decide +kernel
theorem dX10_debt_37 : decode cX10_debt 37 = .ok (.if_icmp .ne 7, 3) := by decide +kernel
theorem dX10_debt_40 : decode cX10_debt 40 = .ok (.iconst (-1), 1) := by decide +kernel
theorem dX10_debt_41 : decode cX10_debt 41 = .ok (.goto 12, 3) := by decide +kernel
theorem dX10_debt_44 : decode cX10_debt 44 = .ok (.aload_n 0, 1) := by decide +kernel
theorem dX10_debt_45 : decode cX10_debt 45 = .ok (.iload 4, 2) := by decide +kernel
theorem dX10_debt_47 : decode cX10_debt 47 = .ok (.iload_n 3, 1) := by decide +kernel
theorem dX10_debt_48 : decode cX10_debt 48 = .ok (.iconst 1, 1) := by decide +kernel
theorem dX10_debt_49 : decode cX10_debt 49 = .ok (.iadd, 1) := by decide +kernel
theorem dX10_debt_50 : decode cX10_debt 50 = .ok (.invokevirtual 325, 3) := by decide +kernel
theorem dX10_debt_53 : decode cX10_debt 53 = .ok (.ireturn, 1) := by decide +kernel
theorem dX10_slightsOf_0 : decode cX10_slightsOf 0 = .ok (.iconst 0, 1) := by decide +kernel
theorem dX10_slightsOf_1 : decode cX10_slightsOf 1 = .ok (.istore_n 2, 1) := by decide +kernel
theorem dX10_slightsOf_2 : decode cX10_slightsOf 2 = .ok (.iconst 0, 1) := by decide +kernel
theorem dX10_slightsOf_3 : decode cX10_slightsOf 3 = .ok (.istore_n 3, 1) := by decide +kernel
theorem dX10_slightsOf_4 : decode cX10_slightsOf 4 = .ok (.iload_n 3, 1) := by decide +kernel
theorem dX10_slightsOf_5 : decode cX10_slightsOf 5 = .ok (.aload_n 0, 1) := by decide +kernel
theorem dX10_slightsOf_6 : decode cX10_slightsOf 6 = .ok (.getfield 13, 3) := by decide +kernel
theorem dX10_slightsOf_9 : decode cX10_slightsOf 9 = .ok (.bipush 7, 2) := by decide +kernel
theorem dX10_slightsOf_11 : decode cX10_slightsOf 11 = .ok (.iaload, 1) := by decide +kernel
theorem dX10_slightsOf_12 : decode cX10_slightsOf 12 = .ok (.if_icmp .ge 40, 3) := by decide +kernel
theorem dX10_slightsOf_15 : decode cX10_slightsOf 15 = .ok (.iload_n 2, 1) := by decide +kernel
theorem dX10_slightsOf_16 : decode cX10_slightsOf 16 = .ok (.aload_n 0, 1) := by decide +kernel
theorem dX10_slightsOf_17 : decode cX10_slightsOf 17 = .ok (.iload_n 3, 1) := by decide +kernel
theorem dX10_slightsOf_18 : decode cX10_slightsOf 18 = .ok (.iconst 1, 1) := by decide +kernel
theorem dX10_slightsOf_19 : decode cX10_slightsOf 19 = .ok (.invokevirtual 325, 3) := by decide +kernel
theorem dX10_slightsOf_22 : decode cX10_slightsOf 22 = .ok (.iload_n 1, 1) := by decide +kernel
theorem dX10_slightsOf_23 : decode cX10_slightsOf 23 = .ok (.if_icmp .ne 20, 3) := by decide +kernel
theorem dX10_slightsOf_26 : decode cX10_slightsOf 26 = .ok (.aload_n 0, 1) := by decide +kernel
theorem dX10_slightsOf_27 : decode cX10_slightsOf 27 = .ok (.iload_n 3, 1) := by decide +kernel
theorem dX10_slightsOf_28 : decode cX10_slightsOf 28 = .ok (.iconst 3, 1) := by decide +kernel
theorem dX10_slightsOf_29 : decode cX10_slightsOf 29 = .ok (.invokevirtual 325, 3) := by decide +kernel
theorem dX10_slightsOf_32 : decode cX10_slightsOf 32 = .ok (.aload_n 0, 1) := by decide +kernel
theorem dX10_slightsOf_33 : decode cX10_slightsOf 33 = .ok (.invokevirtual 291, 3) := by decide +kernel
theorem dX10_slightsOf_36 : decode cX10_slightsOf 36 = .ok (.if_icmp .ge 7, 3) := by decide +kernel
theorem dX10_slightsOf_39 : decode cX10_slightsOf 39 = .ok (.iconst 1, 1) := by decide +kernel
theorem dX10_slightsOf_40 : decode cX10_slightsOf 40 = .ok (.goto 4, 3) := by decide +kernel
theorem dX10_slightsOf_43 : decode cX10_slightsOf 43 = .ok (.iconst 0, 1) := by decide +kernel
theorem dX10_slightsOf_44 : decode cX10_slightsOf 44 = .ok (.iadd, 1) := by decide +kernel
theorem dX10_slightsOf_45 : decode cX10_slightsOf 45 = .ok (.istore_n 2, 1) := by decide +kernel
theorem dX10_slightsOf_46 : decode cX10_slightsOf 46 = .ok (.iinc 3 1, 3) := by decide +kernel
theorem dX10_slightsOf_49 : decode cX10_slightsOf 49 = .ok (.goto (-45), 3) := by decide +kernel
theorem dX10_slightsOf_52 : decode cX10_slightsOf 52 = .ok (.iload_n 2, 1) := by decide +kernel
theorem dX10_slightsOf_53 : decode cX10_slightsOf 53 = .ok (.ireturn, 1) := by decide +kernel
theorem dX10_slights_0 : decode cX10_slights 0 = .ok (.aload_n 0, 1) := by decide +kernel
theorem dX10_slights_1 : decode cX10_slights 1 = .ok (.iload_n 1, 1) := by decide +kernel
theorem dX10_slights_2 : decode cX10_slights 2 = .ok (.invokevirtual 105, 3) := by decide +kernel
theorem dX10_slights_5 : decode cX10_slights 5 = .ok (.ifCond .eq 11, 3) := by decide +kernel
theorem dX10_slights_8 : decode cX10_slights 8 = .ok (.aload_n 0, 1) := by decide +kernel
theorem dX10_slights_9 : decode cX10_slights 9 = .ok (.iload_n 1, 1) := by decide +kernel
theorem dX10_slights_10 : decode cX10_slights 10 = .ok (.invokevirtual 387, 3) := by decide +kernel
theorem dX10_slights_13 : decode cX10_slights 13 = .ok (.goto 5, 3) := by decide +kernel
theorem dX10_slights_16 : decode cX10_slights 16 = .ok (.bipush (-2), 2) := by decide +kernel
theorem dX10_slights_18 : decode cX10_slights 18 = .ok (.ireturn, 1) := by decide +kernel
theorem dX10_first_0 : decode cX10_first 0 = .ok (.iconst (-1), 1) := by decide +kernel
theorem dX10_first_1 : decode cX10_first 1 = .ok (.istore_n 1, 1) := by decide +kernel
theorem dX10_first_2 : decode cX10_first 2 = .ok (.iconst 0, 1) := by decide +kernel
theorem dX10_first_3 : decode cX10_first 3 = .ok (.istore_n 2, 1) := by decide +kernel
theorem dX10_first_4 : decode cX10_first 4 = .ok (.iconst 0, 1) := by decide +kernel
theorem dX10_first_5 : decode cX10_first 5 = .ok (.istore_n 3, 1) := by decide +kernel
theorem dX10_first_6 : decode cX10_first 6 = .ok (.iload_n 3, 1) := by decide +kernel
theorem dX10_first_7 : decode cX10_first 7 = .ok (.aload_n 0, 1) := by decide +kernel
theorem dX10_first_8 : decode cX10_first 8 = .ok (.getfield 13, 3) := by decide +kernel
theorem dX10_first_11 : decode cX10_first 11 = .ok (.iconst 0, 1) := by decide +kernel
theorem dX10_first_12 : decode cX10_first 12 = .ok (.iaload, 1) := by decide +kernel
theorem dX10_first_13 : decode cX10_first 13 = .ok (.if_icmp .ge 56, 3) := by decide +kernel
theorem dX10_first_16 : decode cX10_first 16 = .ok (.aload_n 0, 1) := by decide +kernel
theorem dX10_first_17 : decode cX10_first 17 = .ok (.iload_n 3, 1) := by decide +kernel
theorem dX10_first_18 : decode cX10_first 18 = .ok (.invokevirtual 387, 3) := by decide +kernel
theorem dX10_first_21 : decode cX10_first 21 = .ok (.istore 4, 2) := by decide +kernel
theorem dX10_first_23 : decode cX10_first 23 = .ok (.iload 4, 2) := by decide +kernel
theorem dX10_first_25 : decode cX10_first 25 = .ok (.ifCond .eq 38, 3) := by decide +kernel
theorem dX10_first_28 : decode cX10_first 28 = .ok (.iload 4, 2) := by decide +kernel
theorem dX10_first_30 : decode cX10_first 30 = .ok (.iload_n 2, 1) := by decide +kernel
theorem dX10_first_31 : decode cX10_first 31 = .ok (.if_icmp .lt 32, 3) := by decide +kernel
theorem dX10_first_34 : decode cX10_first 34 = .ok (.iload 4, 2) := by decide +kernel
theorem dX10_first_36 : decode cX10_first 36 = .ok (.iload_n 2, 1) := by decide +kernel
theorem dX10_first_37 : decode cX10_first 37 = .ok (.if_icmp .ne 21, 3) := by decide +kernel
theorem dX10_first_40 : decode cX10_first 40 = .ok (.aload_n 0, 1) := by decide +kernel
theorem dX10_first_41 : decode cX10_first 41 = .ok (.iload_n 3, 1) := by decide +kernel
theorem dX10_first_42 : decode cX10_first 42 = .ok (.iconst 2, 1) := by decide +kernel
theorem dX10_first_43 : decode cX10_first 43 = .ok (.invokevirtual 286, 3) := by decide +kernel
theorem dX10_first_46 : decode cX10_first 46 = .ok (.aload_n 0, 1) := by decide +kernel
theorem dX10_first_47 : decode cX10_first 47 = .ok (.iload_n 1, 1) := by decide +kernel
theorem dX10_first_48 : decode cX10_first 48 = .ok (.iconst 2, 1) := by decide +kernel
theorem dX10_first_49 : decode cX10_first 49 = .ok (.invokevirtual 286, 3) := by decide +kernel
theorem dX10_first_52 : decode cX10_first 52 = .ok (.if_icmp .gt 6, 3) := by decide +kernel
theorem dX10_first_55 : decode cX10_first 55 = .ok (.goto 8, 3) := by decide +kernel
theorem dX10_first_58 : decode cX10_first 58 = .ok (.iload_n 3, 1) := by decide +kernel
theorem dX10_first_59 : decode cX10_first 59 = .ok (.istore_n 1, 1) := by decide +kernel
theorem dX10_first_60 : decode cX10_first 60 = .ok (.iload 4, 2) := by decide +kernel
theorem dX10_first_62 : decode cX10_first 62 = .ok (.istore_n 2, 1) := by decide +kernel
theorem dX10_first_63 : decode cX10_first 63 = .ok (.iinc 3 1, 3) := by decide +kernel
theorem dX10_first_66 : decode cX10_first 66 = .ok (.goto (-60), 3) := by decide +kernel
theorem dX10_first_69 : decode cX10_first 69 = .ok (.iload_n 1, 1) := by decide +kernel
theorem dX10_first_70 : decode cX10_first 70 = .ok (.ireturn, 1) := by decide +kernel
theorem dX10_owes_0 : decode cX10_owes 0 = .ok (.aload_n 0, 1) := by decide +kernel
theorem dX10_owes_1 : decode cX10_owes 1 = .ok (.iload_n 1, 1) := by decide +kernel
theorem dX10_owes_2 : decode cX10_owes 2 = .ok (.iload_n 2, 1) := by decide +kernel
theorem dX10_owes_3 : decode cX10_owes 3 = .ok (.invokevirtual 315, 3) := by decide +kernel
theorem dX10_owes_6 : decode cX10_owes 6 = .ok (.ifCond .eq 10, 3) := by decide +kernel
theorem dX10_owes_9 : decode cX10_owes 9 = .ok (.iload_n 3, 1) := by decide +kernel
theorem dX10_owes_10 : decode cX10_owes 10 = .ok (.invokestatic 318, 3) := by decide +kernel
theorem dX10_owes_13 : decode cX10_owes 13 = .ok (.ifCond .ne 6, 3) := by decide +kernel
theorem dX10_owes_16 : decode cX10_owes 16 = .ok (.bipush (-2), 2) := by decide +kernel
theorem dX10_owes_18 : decode cX10_owes 18 = .ok (.ireturn, 1) := by decide +kernel
theorem dX10_owes_19 : decode cX10_owes 19 = .ok (.aload_n 0, 1) := by decide +kernel
theorem dX10_owes_20 : decode cX10_owes 20 = .ok (.iload_n 1, 1) := by decide +kernel
theorem dX10_owes_21 : decode cX10_owes 21 = .ok (.iload_n 2, 1) := by decide +kernel
theorem dX10_owes_22 : decode cX10_owes 22 = .ok (.iload_n 3, 1) := by decide +kernel
theorem dX10_owes_23 : decode cX10_owes 23 = .ok (.aload_n 0, 1) := by decide +kernel
theorem dX10_owes_24 : decode cX10_owes 24 = .ok (.iload_n 1, 1) := by decide +kernel
theorem dX10_owes_25 : decode cX10_owes 25 = .ok (.iload_n 2, 1) := by decide +kernel
theorem dX10_owes_26 : decode cX10_owes 26 = .ok (.invokevirtual 304, 3) := by decide +kernel
theorem dX10_owes_29 : decode cX10_owes 29 = .ok (.aload_n 0, 1) := by decide +kernel
theorem dX10_owes_30 : decode cX10_owes 30 = .ok (.invokevirtual 291, 3) := by decide +kernel
theorem dX10_owes_33 : decode cX10_owes 33 = .ok (.invokevirtual 352, 3) := by decide +kernel
theorem dX10_owes_36 : decode cX10_owes 36 = .ok (.istore 4, 2) := by decide +kernel
theorem dX10_owes_38 : decode cX10_owes 38 = .ok (.iload 4, 2) := by decide +kernel
theorem dX10_owes_40 : decode cX10_owes 40 = .ok (.iconst (-1), 1) := by decide +kernel
theorem dX10_owes_41 : decode cX10_owes 41 = .ok (.if_icmp .ne 5, 3) := by decide +kernel
theorem dX10_owes_44 : decode cX10_owes 44 = .ok (.iconst (-1), 1) := by decide +kernel
theorem dX10_owes_45 : decode cX10_owes 45 = .ok (.ireturn, 1) := by decide +kernel
theorem dX10_owes_46 : decode cX10_owes 46 = .ok (.aload_n 0, 1) := by decide +kernel
theorem dX10_owes_47 : decode cX10_owes 47 = .ok (.getfield 13, 3) := by decide +kernel
theorem dX10_owes_50 : decode cX10_owes 50 = .ok (.sipush 154, 3) := by decide +kernel
theorem dX10_owes_53 : decode cX10_owes 53 = .ok (.iconst 5, 1) := by decide +kernel
theorem dX10_owes_54 : decode cX10_owes 54 = .ok (.iload 4, 2) := by decide +kernel
theorem dX10_owes_56 : decode cX10_owes 56 = .ok (.imul, 1) := by decide +kernel
theorem dX10_owes_57 : decode cX10_owes 57 = .ok (.iadd, 1) := by decide +kernel
theorem dX10_owes_58 : decode cX10_owes 58 = .ok (.iconst 1, 1) := by decide +kernel
theorem dX10_owes_59 : decode cX10_owes 59 = .ok (.iadd, 1) := by decide +kernel
theorem dX10_owes_60 : decode cX10_owes 60 = .ok (.iaload, 1) := by decide +kernel
theorem dX10_owes_61 : decode cX10_owes 61 = .ok (.istore 5, 2) := by decide +kernel
theorem dX10_owes_63 : decode cX10_owes 63 = .ok (.aload_n 0, 1) := by decide +kernel
theorem dX10_owes_64 : decode cX10_owes 64 = .ok (.iload_n 2, 1) := by decide +kernel
theorem dX10_owes_65 : decode cX10_owes 65 = .ok (.iload_n 1, 1) := by decide +kernel
theorem dX10_owes_66 : decode cX10_owes 66 = .ok (.iload 5, 2) := by decide +kernel
theorem dX10_owes_68 : decode cX10_owes 68 = .ok (.invokevirtual 356, 3) := by decide +kernel
theorem dX10_owes_71 : decode cX10_owes 71 = .ok (.ifCond .eq 7, 3) := by decide +kernel
theorem dX10_owes_74 : decode cX10_owes 74 = .ok (.iconst (-1), 1) := by decide +kernel
theorem dX10_owes_75 : decode cX10_owes 75 = .ok (.goto 5, 3) := by decide +kernel
theorem dX10_owes_78 : decode cX10_owes 78 = .ok (.iload 5, 2) := by decide +kernel
theorem dX10_owes_80 : decode cX10_owes 80 = .ok (.ireturn, 1) := by decide +kernel
theorem dX10_weighs_0 : decode cX10_weighs 0 = .ok (.iconst 0, 1) := by decide +kernel
theorem dX10_weighs_1 : decode cX10_weighs 1 = .ok (.istore_n 2, 1) := by decide +kernel
theorem dX10_weighs_2 : decode cX10_weighs 2 = .ok (.iload_n 2, 1) := by decide +kernel
theorem dX10_weighs_3 : decode cX10_weighs 3 = .ok (.bipush 16, 2) := by decide +kernel
theorem dX10_weighs_5 : decode cX10_weighs 5 = .ok (.if_icmp .ge 23, 3) := by decide +kernel
theorem dX10_weighs_8 : decode cX10_weighs 8 = .ok (.aload_n 0, 1) := by decide +kernel
theorem dX10_weighs_9 : decode cX10_weighs 9 = .ok (.getfield 43, 3) := by decide +kernel
theorem dX10_weighs_12 : decode cX10_weighs 12 = .ok (.iload_n 2, 1) := by decide +kernel
theorem dX10_weighs_13 : decode cX10_weighs 13 = .ok (.iconst 0, 1) := by decide +kernel
theorem dX10_weighs_14 : decode cX10_weighs 14 = .ok (.iastore, 1) := by decide +kernel
theorem dX10_weighs_15 : decode cX10_weighs 15 = .ok (.aload_n 0, 1) := by decide +kernel
theorem dX10_weighs_16 : decode cX10_weighs 16 = .ok (.getfield 46, 3) := by decide +kernel
theorem dX10_weighs_19 : decode cX10_weighs 19 = .ok (.iload_n 2, 1) := by decide +kernel
theorem dX10_weighs_20 : decode cX10_weighs 20 = .ok (.iconst 0, 1) := by decide +kernel
theorem dX10_weighs_21 : decode cX10_weighs 21 = .ok (.bastore, 1) := by decide +kernel
theorem dX10_weighs_22 : decode cX10_weighs 22 = .ok (.iinc 2 1, 3) := by decide +kernel
theorem dX10_weighs_25 : decode cX10_weighs 25 = .ok (.goto (-23), 3) := by decide +kernel
theorem dX10_weighs_28 : decode cX10_weighs 28 = .ok (.iconst 0, 1) := by decide +kernel
theorem dX10_weighs_29 : decode cX10_weighs 29 = .ok (.istore_n 2, 1) := by decide +kernel
theorem dX10_weighs_30 : decode cX10_weighs 30 = .ok (.iload_n 2, 1) := by decide +kernel
theorem dX10_weighs_31 : decode cX10_weighs 31 = .ok (.aload_n 0, 1) := by decide +kernel
theorem dX10_weighs_32 : decode cX10_weighs 32 = .ok (.getfield 13, 3) := by decide +kernel
theorem dX10_weighs_35 : decode cX10_weighs 35 = .ok (.bipush 7, 2) := by decide +kernel
theorem dX10_weighs_37 : decode cX10_weighs 37 = .ok (.iaload, 1) := by decide +kernel
theorem dX10_weighs_38 : decode cX10_weighs 38 = .ok (.if_icmp .ge 76, 3) := by decide +kernel
theorem dX10_weighs_41 : decode cX10_weighs 41 = .ok (.aload_n 0, 1) := by decide +kernel
theorem dX10_weighs_42 : decode cX10_weighs 42 = .ok (.iload_n 2, 1) := by decide +kernel
theorem dX10_weighs_43 : decode cX10_weighs 43 = .ok (.iconst 0, 1) := by decide +kernel
theorem dX10_weighs_44 : decode cX10_weighs 44 = .ok (.invokevirtual 325, 3) := by decide +kernel
theorem dX10_weighs_47 : decode cX10_weighs 47 = .ok (.iload_n 1, 1) := by decide +kernel
theorem dX10_weighs_48 : decode cX10_weighs 48 = .ok (.if_icmp .eq 6, 3) := by decide +kernel
theorem dX10_weighs_51 : decode cX10_weighs 51 = .ok (.goto 57, 3) := by decide +kernel
theorem dX10_weighs_54 : decode cX10_weighs 54 = .ok (.aload_n 0, 1) := by decide +kernel
theorem dX10_weighs_55 : decode cX10_weighs 55 = .ok (.iload_n 2, 1) := by decide +kernel
theorem dX10_weighs_56 : decode cX10_weighs 56 = .ok (.iconst 1, 1) := by decide +kernel
theorem dX10_weighs_57 : decode cX10_weighs 57 = .ok (.invokevirtual 325, 3) := by decide +kernel
theorem dX10_weighs_60 : decode cX10_weighs 60 = .ok (.istore_n 3, 1) := by decide +kernel
theorem dX10_weighs_61 : decode cX10_weighs 61 = .ok (.aload_n 0, 1) := by decide +kernel
theorem dX10_weighs_62 : decode cX10_weighs 62 = .ok (.getfield 43, 3) := by decide +kernel
theorem dX10_weighs_65 : decode cX10_weighs 65 = .ok (.iload_n 3, 1) := by decide +kernel
theorem dX10_weighs_66 : decode cX10_weighs 66 = .ok (.dup2, 1) := by decide +kernel
theorem dX10_weighs_67 : decode cX10_weighs 67 = .ok (.iaload, 1) := by decide +kernel
theorem dX10_weighs_68 : decode cX10_weighs 68 = .ok (.aload_n 0, 1) := by decide +kernel
theorem dX10_weighs_69 : decode cX10_weighs 69 = .ok (.iload_n 2, 1) := by decide +kernel
theorem dX10_weighs_70 : decode cX10_weighs 70 = .ok (.iconst 2, 1) := by decide +kernel
theorem dX10_weighs_71 : decode cX10_weighs 71 = .ok (.invokevirtual 325, 3) := by decide +kernel
theorem dX10_weighs_74 : decode cX10_weighs 74 = .ok (.iconst 1, 1) := by decide +kernel
theorem dX10_weighs_75 : decode cX10_weighs 75 = .ok (.iadd, 1) := by decide +kernel
theorem dX10_weighs_76 : decode cX10_weighs 76 = .ok (.iadd, 1) := by decide +kernel
theorem dX10_weighs_77 : decode cX10_weighs 77 = .ok (.iastore, 1) := by decide +kernel
theorem dX10_weighs_78 : decode cX10_weighs 78 = .ok (.aload_n 0, 1) := by decide +kernel
theorem dX10_weighs_79 : decode cX10_weighs 79 = .ok (.getfield 46, 3) := by decide +kernel
theorem dX10_weighs_82 : decode cX10_weighs 82 = .ok (.iload_n 3, 1) := by decide +kernel
theorem dX10_weighs_83 : decode cX10_weighs 83 = .ok (.aload_n 0, 1) := by decide +kernel
theorem dX10_weighs_84 : decode cX10_weighs 84 = .ok (.getfield 46, 3) := by decide +kernel
theorem dX10_weighs_87 : decode cX10_weighs 87 = .ok (.iload_n 3, 1) := by decide +kernel
theorem dX10_weighs_88 : decode cX10_weighs 88 = .ok (.baload, 1) := by decide +kernel
theorem dX10_weighs_89 : decode cX10_weighs 89 = .ok (.ifCond .ne 13, 3) := by decide +kernel
theorem dX10_weighs_92 : decode cX10_weighs 92 = .ok (.aload_n 0, 1) := by decide +kernel
theorem dX10_weighs_93 : decode cX10_weighs 93 = .ok (.iload_n 2, 1) := by decide +kernel
theorem dX10_weighs_94 : decode cX10_weighs 94 = .ok (.iconst 2, 1) := by decide +kernel
theorem dX10_weighs_95 : decode cX10_weighs 95 = .ok (.invokevirtual 325, 3) := by decide +kernel
theorem dX10_weighs_98 : decode cX10_weighs 98 = .ok (.iconst 2, 1) := by decide +kernel
theorem dX10_weighs_99 : decode cX10_weighs 99 = .ok (.if_icmp .lt 7, 3) := by decide +kernel
theorem dX10_weighs_102 : decode cX10_weighs 102 = .ok (.iconst 1, 1) := by decide +kernel
theorem dX10_weighs_103 : decode cX10_weighs 103 = .ok (.goto 4, 3) := by decide +kernel
theorem dX10_weighs_106 : decode cX10_weighs 106 = .ok (.iconst 0, 1) := by decide +kernel
theorem dX10_weighs_107 : decode cX10_weighs 107 = .ok (.bastore, 1) := by decide +kernel
theorem dX10_weighs_108 : decode cX10_weighs 108 = .ok (.iinc 2 1, 3) := by decide +kernel
theorem dX10_weighs_111 : decode cX10_weighs 111 = .ok (.goto (-81), 3) := by decide +kernel
theorem dX10_weighs_114 : decode cX10_weighs 114 = .ok (.return_, 1) := by decide +kernel
theorem dX10_lists_0 : decode cX10_lists 0 = .ok (.aload_n 0, 1) := by decide +kernel
theorem dX10_lists_1 : decode cX10_lists 1 = .ok (.iload_n 1, 1) := by decide +kernel
theorem dX10_lists_2 : decode cX10_lists 2 = .ok (.invokevirtual 390, 3) := by decide +kernel
theorem dX10_lists_5 : decode cX10_lists 5 = .ok (.aload_n 0, 1) := by decide +kernel
theorem dX10_lists_6 : decode cX10_lists 6 = .ok (.iconst 0, 1) := by decide +kernel
theorem dX10_lists_7 : decode cX10_lists 7 = .ok (.putfield 393, 3) := by decide +kernel
theorem dX10_lists_10 : decode cX10_lists 10 = .ok (.iconst 0, 1) := by decide +kernel
theorem dX10_lists_11 : decode cX10_lists 11 = .ok (.istore_n 2, 1) := by decide +kernel
theorem dX10_lists_12 : decode cX10_lists 12 = .ok (.iload_n 2, 1) := by decide +kernel
theorem dX10_lists_13 : decode cX10_lists 13 = .ok (.bipush 16, 2) := by decide +kernel
theorem dX10_lists_15 : decode cX10_lists 15 = .ok (.if_icmp .ge 50, 3) := by decide +kernel
theorem dX10_lists_18 : decode cX10_lists 18 = .ok (.aload_n 0, 1) := by decide +kernel
theorem dX10_lists_19 : decode cX10_lists 19 = .ok (.getfield 393, 3) := by decide +kernel
theorem dX10_lists_22 : decode cX10_lists 22 = .ok (.bipush 10, 2) := by decide +kernel
theorem dX10_lists_24 : decode cX10_lists 24 = .ok (.if_icmp .ge 41, 3) := by decide +kernel
theorem dX10_lists_27 : decode cX10_lists 27 = .ok (.aload_n 0, 1) := by decide +kernel
theorem dX10_lists_28 : decode cX10_lists 28 = .ok (.getfield 43, 3) := by decide +kernel
theorem dX10_lists_31 : decode cX10_lists 31 = .ok (.iload_n 2, 1) := by decide +kernel
theorem dX10_lists_32 : decode cX10_lists 32 = .ok (.iaload, 1) := by decide +kernel
theorem dX10_lists_33 : decode cX10_lists 33 = .ok (.ifCond .ne 6, 3) := by decide +kernel
theorem dX10_lists_36 : decode cX10_lists 36 = .ok (.goto 23, 3) := by decide +kernel
theorem dX10_lists_39 : decode cX10_lists 39 = .ok (.aload_n 0, 1) := by decide +kernel
theorem dX10_lists_40 : decode cX10_lists 40 = .ok (.getfield 40, 3) := by decide +kernel
theorem dX10_lists_43 : decode cX10_lists 43 = .ok (.aload_n 0, 1) := by decide +kernel
theorem dX10_lists_44 : decode cX10_lists 44 = .ok (.getfield 393, 3) := by decide +kernel
theorem dX10_lists_47 : decode cX10_lists 47 = .ok (.iload_n 2, 1) := by decide +kernel
theorem dX10_lists_48 : decode cX10_lists 48 = .ok (.iastore, 1) := by decide +kernel
theorem dX10_lists_49 : decode cX10_lists 49 = .ok (.aload_n 0, 1) := by decide +kernel
theorem dX10_lists_50 : decode cX10_lists 50 = .ok (.dup, 1) := by decide +kernel
theorem dX10_lists_51 : decode cX10_lists 51 = .ok (.getfield 393, 3) := by decide +kernel
theorem dX10_lists_54 : decode cX10_lists 54 = .ok (.iconst 1, 1) := by decide +kernel
theorem dX10_lists_55 : decode cX10_lists 55 = .ok (.iadd, 1) := by decide +kernel
theorem dX10_lists_56 : decode cX10_lists 56 = .ok (.putfield 393, 3) := by decide +kernel
theorem dX10_lists_59 : decode cX10_lists 59 = .ok (.iinc 2 1, 3) := by decide +kernel
theorem dX10_lists_62 : decode cX10_lists 62 = .ok (.goto (-50), 3) := by decide +kernel
theorem dX10_lists_65 : decode cX10_lists 65 = .ok (.return_, 1) := by decide +kernel
theorem dX10_minutes_0 : decode cX10_minutes 0 = .ok (.aload_n 0, 1) := by decide +kernel
theorem dX10_minutes_1 : decode cX10_minutes 1 = .ok (.iload_n 1, 1) := by decide +kernel
theorem dX10_minutes_2 : decode cX10_minutes 2 = .ok (.iconst 0, 1) := by decide +kernel
theorem dX10_minutes_3 : decode cX10_minutes 3 = .ok (.invokevirtual 286, 3) := by decide +kernel
theorem dX10_minutes_6 : decode cX10_minutes 6 = .ok (.aload_n 0, 1) := by decide +kernel
theorem dX10_minutes_7 : decode cX10_minutes 7 = .ok (.iload_n 2, 1) := by decide +kernel
theorem dX10_minutes_8 : decode cX10_minutes 8 = .ok (.iconst 0, 1) := by decide +kernel
theorem dX10_minutes_9 : decode cX10_minutes 9 = .ok (.invokevirtual 286, 3) := by decide +kernel
theorem dX10_minutes_12 : decode cX10_minutes 12 = .ok (.isub, 1) := by decide +kernel
theorem dX10_minutes_13 : decode cX10_minutes 13 = .ok (.invokestatic 396, 3) := by decide +kernel
theorem dX10_minutes_16 : decode cX10_minutes 16 = .ok (.aload_n 0, 1) := by decide +kernel
theorem dX10_minutes_17 : decode cX10_minutes 17 = .ok (.iload_n 1, 1) := by decide +kernel
theorem dX10_minutes_18 : decode cX10_minutes 18 = .ok (.iconst 1, 1) := by decide +kernel
theorem dX10_minutes_19 : decode cX10_minutes 19 = .ok (.invokevirtual 286, 3) := by decide +kernel
theorem dX10_minutes_22 : decode cX10_minutes 22 = .ok (.aload_n 0, 1) := by decide +kernel
theorem dX10_minutes_23 : decode cX10_minutes 23 = .ok (.iload_n 2, 1) := by decide +kernel
theorem dX10_minutes_24 : decode cX10_minutes 24 = .ok (.iconst 1, 1) := by decide +kernel
theorem dX10_minutes_25 : decode cX10_minutes 25 = .ok (.invokevirtual 286, 3) := by decide +kernel
theorem dX10_minutes_28 : decode cX10_minutes 28 = .ok (.isub, 1) := by decide +kernel
theorem dX10_minutes_29 : decode cX10_minutes 29 = .ok (.invokestatic 396, 3) := by decide +kernel
theorem dX10_minutes_32 : decode cX10_minutes 32 = .ok (.iadd, 1) := by decide +kernel
theorem dX10_minutes_33 : decode cX10_minutes 33 = .ok (.ireturn, 1) := by decide +kernel
theorem dX10_seen_0 : decode cX10_seen 0 = .ok (.iload_n 2, 1) := by decide +kernel
theorem dX10_seen_1 : decode cX10_seen 1 = .ok (.aload_n 0, 1) := by decide +kernel
theorem dX10_seen_2 : decode cX10_seen 2 = .ok (.iload_n 1, 1) := by decide +kernel
theorem dX10_seen_3 : decode cX10_seen 3 = .ok (.iload_n 3, 1) := by decide +kernel
theorem dX10_seen_4 : decode cX10_seen 4 = .ok (.invokevirtual 399, 3) := by decide +kernel
theorem dX10_seen_7 : decode cX10_seen 7 = .ok (.iadd, 1) := by decide +kernel
theorem dX10_seen_8 : decode cX10_seen 8 = .ok (.istore 5, 2) := by decide +kernel
theorem dX10_seen_10 : decode cX10_seen 10 = .ok (.aload_n 0, 1) := by decide +kernel
theorem dX10_seen_11 : decode cX10_seen 11 = .ok (.getfield 46, 3) := by decide +kernel
theorem dX10_seen_14 : decode cX10_seen 14 = .ok (.iload_n 3, 1) := by decide +kernel
theorem dX10_seen_15 : decode cX10_seen 15 = .ok (.baload, 1) := by decide +kernel
theorem dX10_seen_16 : decode cX10_seen 16 = .ok (.ifCond .eq 48, 3) := by decide +kernel
theorem dX10_seen_19 : decode cX10_seen 19 = .ok (.iload 4, 2) := by decide +kernel
theorem dX10_seen_21 : decode cX10_seen 21 = .ok (.bipush 7, 2) := by decide +kernel
theorem dX10_seen_23 : decode cX10_seen 23 = .ok (.irem, 1) := by decide +kernel
theorem dX10_seen_24 : decode cX10_seen 24 = .ok (.aload_n 0, 1) := by decide +kernel
theorem dX10_seen_25 : decode cX10_seen 25 = .ok (.iload_n 3, 1) := by decide +kernel
theorem dX10_seen_26 : decode cX10_seen 26 = .ok (.iconst 3, 1) := by decide +kernel
theorem dX10_seen_27 : decode cX10_seen 27 = .ok (.invokevirtual 286, 3) := by decide +kernel
theorem dX10_seen_30 : decode cX10_seen 30 = .ok (.if_icmp .eq 5, 3) := by decide +kernel
theorem dX10_seen_33 : decode cX10_seen 33 = .ok (.iconst (-1), 1) := by decide +kernel
theorem dX10_seen_34 : decode cX10_seen 34 = .ok (.ireturn, 1) := by decide +kernel
theorem dX10_seen_35 : decode cX10_seen 35 = .ok (.iload 5, 2) := by decide +kernel
theorem dX10_seen_37 : decode cX10_seen 37 = .ok (.aload_n 0, 1) := by decide +kernel
theorem dX10_seen_38 : decode cX10_seen 38 = .ok (.iload_n 3, 1) := by decide +kernel
theorem dX10_seen_39 : decode cX10_seen 39 = .ok (.iconst 4, 1) := by decide +kernel
theorem dX10_seen_40 : decode cX10_seen 40 = .ok (.invokevirtual 286, 3) := by decide +kernel
theorem dX10_seen_43 : decode cX10_seen 43 = .ok (.invokestatic 402, 3) := by decide +kernel
theorem dX10_seen_46 : decode cX10_seen 46 = .ok (.bipush 15, 2) := by decide +kernel
theorem dX10_seen_48 : decode cX10_seen 48 = .ok (.iadd, 1) := by decide +kernel
theorem dX10_seen_49 : decode cX10_seen 49 = .ok (.istore 5, 2) := by decide +kernel
theorem dX10_seen_51 : decode cX10_seen 51 = .ok (.iload 5, 2) := by decide +kernel
theorem dX10_seen_53 : decode cX10_seen 53 = .ok (.aload_n 0, 1) := by decide +kernel
theorem dX10_seen_54 : decode cX10_seen 54 = .ok (.iload_n 3, 1) := by decide +kernel
theorem dX10_seen_55 : decode cX10_seen 55 = .ok (.iconst 5, 1) := by decide +kernel
theorem dX10_seen_56 : decode cX10_seen 56 = .ok (.invokevirtual 286, 3) := by decide +kernel
theorem dX10_seen_59 : decode cX10_seen 59 = .ok (.if_icmp .le 5, 3) := by decide +kernel
theorem dX10_seen_62 : decode cX10_seen 62 = .ok (.iconst (-1), 1) := by decide +kernel
theorem dX10_seen_63 : decode cX10_seen 63 = .ok (.ireturn, 1) := by decide +kernel
theorem dX10_seen_64 : decode cX10_seen 64 = .ok (.iload 5, 2) := by decide +kernel
theorem dX10_seen_66 : decode cX10_seen 66 = .ok (.sipush 180, 3) := by decide +kernel
theorem dX10_seen_69 : decode cX10_seen 69 = .ok (.if_icmp .le 7, 3) := by decide +kernel
theorem dX10_seen_72 : decode cX10_seen 72 = .ok (.iconst (-1), 1) := by decide +kernel
theorem dX10_seen_73 : decode cX10_seen 73 = .ok (.goto 5, 3) := by decide +kernel
theorem dX10_seen_76 : decode cX10_seen 76 = .ok (.iload 5, 2) := by decide +kernel
theorem dX10_seen_78 : decode cX10_seen 78 = .ok (.ireturn, 1) := by decide +kernel
theorem dX10_goesThrough_0 : decode cX10_goesThrough 0 = .ok (.iconst 1, 1) := by decide +kernel
theorem dX10_goesThrough_1 : decode cX10_goesThrough 1 = .ok (.istore 5, 2) := by decide +kernel
theorem dX10_goesThrough_3 : decode cX10_goesThrough 3 = .ok (.iload 5, 2) := by decide +kernel
theorem dX10_goesThrough_5 : decode cX10_goesThrough 5 = .ok (.iconst 1, 1) := by decide +kernel
theorem dX10_goesThrough_6 : decode cX10_goesThrough 6 = .ok (.aload_n 0, 1) := by decide +kernel
theorem dX10_goesThrough_7 : decode cX10_goesThrough 7 = .ok (.getfield 393, 3) := by decide +kernel
theorem dX10_goesThrough_10 : decode cX10_goesThrough 10 = .ok (.ishl, 1) := by decide +kernel
theorem dX10_goesThrough_11 : decode cX10_goesThrough 11 = .ok (.if_icmp .ge 229, 3) := by decide +kernel
theorem dX10_goesThrough_14 : decode cX10_goesThrough 14 = .ok (.iconst 0, 1) := by decide +kernel
theorem dX10_goesThrough_15 : decode cX10_goesThrough 15 = .ok (.istore 6, 2) := by decide +kernel
theorem dX10_goesThrough_17 : decode cX10_goesThrough 17 = .ok (.iload 6, 2) := by decide +kernel
theorem dX10_goesThrough_19 : decode cX10_goesThrough 19 = .ok (.aload_n 0, 1) := by decide +kernel
theorem dX10_goesThrough_20 : decode cX10_goesThrough 20 = .ok (.getfield 393, 3) := by decide +kernel
theorem dX10_goesThrough_23 : decode cX10_goesThrough 23 = .ok (.if_icmp .ge 211, 3) := by decide +kernel
theorem dX10_goesThrough_26 : decode cX10_goesThrough 26 = .ok (.bipush 10, 2) := by decide +kernel
theorem dX10_goesThrough_28 : decode cX10_goesThrough 28 = .ok (.iload 5, 2) := by decide +kernel
theorem dX10_goesThrough_30 : decode cX10_goesThrough 30 = .ok (.imul, 1) := by decide +kernel
theorem dX10_goesThrough_31 : decode cX10_goesThrough 31 = .ok (.iload 6, 2) := by decide +kernel
theorem dX10_goesThrough_33 : decode cX10_goesThrough 33 = .ok (.iadd, 1) := by decide +kernel
theorem dX10_goesThrough_34 : decode cX10_goesThrough 34 = .ok (.istore 7, 2) := by decide +kernel
theorem dX10_goesThrough_36 : decode cX10_goesThrough 36 = .ok (.aload_n 0, 1) := by decide +kernel
theorem dX10_goesThrough_37 : decode cX10_goesThrough 37 = .ok (.getfield 49, 3) := by decide +kernel
theorem dX10_goesThrough_40 : decode cX10_goesThrough 40 = .ok (.iload 7, 2) := by decide +kernel
theorem dX10_goesThrough_42 : decode cX10_goesThrough 42 = .ok (.iconst (-1), 1) := by decide +kernel
theorem dX10_goesThrough_43 : decode cX10_goesThrough 43 = .ok (.iastore, 1) := by decide +kernel
theorem dX10_goesThrough_44 : decode cX10_goesThrough 44 = .ok (.iload 5, 2) := by decide +kernel
theorem dX10_goesThrough_46 : decode cX10_goesThrough 46 = .ok (.iload 6, 2) := by decide +kernel
theorem dX10_goesThrough_48 : decode cX10_goesThrough 48 = .ok (.invokestatic 294, 3) := by decide +kernel
theorem dX10_goesThrough_51 : decode cX10_goesThrough 51 = .ok (.ifCond .eq 177, 3) := by decide +kernel
theorem dX10_goesThrough_54 : decode cX10_goesThrough 54 = .ok (.iload 5, 2) := by decide +kernel
theorem dX10_goesThrough_56 : decode cX10_goesThrough 56 = .ok (.iload_n 3, 1) := by decide +kernel
theorem dX10_goesThrough_57 : decode cX10_goesThrough 57 = .ok (.iconst (-1), 1) := by decide +kernel
theorem dX10_goesThrough_58 : decode cX10_goesThrough 58 = .ok (.ixor, 1) := by decide +kernel
theorem dX10_goesThrough_59 : decode cX10_goesThrough 59 = .ok (.iand, 1) := by decide +kernel
theorem dX10_goesThrough_60 : decode cX10_goesThrough 60 = .ok (.ifCond .eq 6, 3) := by decide +kernel
theorem dX10_goesThrough_63 : decode cX10_goesThrough 63 = .ok (.goto 165, 3) := by decide +kernel
theorem dX10_goesThrough_66 : decode cX10_goesThrough 66 = .ok (.iload 5, 2) := by decide +kernel
theorem dX10_goesThrough_68 : decode cX10_goesThrough 68 = .ok (.iconst 1, 1) := by decide +kernel
theorem dX10_goesThrough_69 : decode cX10_goesThrough 69 = .ok (.iload 6, 2) := by decide +kernel
theorem dX10_goesThrough_71 : decode cX10_goesThrough 71 = .ok (.ishl, 1) := by decide +kernel
theorem dX10_goesThrough_72 : decode cX10_goesThrough 72 = .ok (.iconst (-1), 1) := by decide +kernel
theorem dX10_goesThrough_73 : decode cX10_goesThrough 73 = .ok (.ixor, 1) := by decide +kernel
theorem dX10_goesThrough_74 : decode cX10_goesThrough 74 = .ok (.iand, 1) := by decide +kernel
theorem dX10_goesThrough_75 : decode cX10_goesThrough 75 = .ok (.istore 8, 2) := by decide +kernel
theorem dX10_goesThrough_77 : decode cX10_goesThrough 77 = .ok (.iload 8, 2) := by decide +kernel
theorem dX10_goesThrough_79 : decode cX10_goesThrough 79 = .ok (.ifCond .ne 28, 3) := by decide +kernel
theorem dX10_goesThrough_82 : decode cX10_goesThrough 82 = .ok (.aload_n 0, 1) := by decide +kernel
theorem dX10_goesThrough_83 : decode cX10_goesThrough 83 = .ok (.getfield 49, 3) := by decide +kernel
theorem dX10_goesThrough_86 : decode cX10_goesThrough 86 = .ok (.iload 7, 2) := by decide +kernel
theorem dX10_goesThrough_88 : decode cX10_goesThrough 88 = .ok (.aload_n 0, 1) := by decide +kernel
theorem dX10_goesThrough_89 : decode cX10_goesThrough 89 = .ok (.iload_n 1, 1) := by decide +kernel
theorem dX10_goesThrough_90 : decode cX10_goesThrough 90 = .ok (.iload_n 2, 1) := by decide +kernel
theorem dX10_goesThrough_91 : decode cX10_goesThrough 91 = .ok (.aload_n 0, 1) := by decide +kernel
theorem dX10_goesThrough_92 : decode cX10_goesThrough 92 = .ok (.getfield 40, 3) := by decide +kernel
theorem dX10_goesThrough_95 : decode cX10_goesThrough 95 = .ok (.iload 6, 2) := by decide +kernel
theorem dX10_goesThrough_97 : decode cX10_goesThrough 97 = .ok (.iaload, 1) := by decide +kernel
theorem dX10_goesThrough_98 : decode cX10_goesThrough 98 = .ok (.iload 4, 2) := by decide +kernel
theorem dX10_goesThrough_100 : decode cX10_goesThrough 100 = .ok (.invokevirtual 405, 3) := by decide +kernel
