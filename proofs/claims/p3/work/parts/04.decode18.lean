theorem dX10_debtsOf_17 : decode cX10_debtsOf 17 = .ok (.iload_n 3, 1) := by decide +kernel
theorem dX10_debtsOf_18 : decode cX10_debtsOf 18 = .ok (.iconst 0, 1) := by decide +kernel
theorem dX10_debtsOf_19 : decode cX10_debtsOf 19 = .ok (.invokevirtual 325, 3) := by decide +kernel
theorem dX10_debtsOf_22 : decode cX10_debtsOf 22 = .ok (.iload_n 1, 1) := by decide +kernel
theorem dX10_debtsOf_23 : decode cX10_debtsOf 23 = .ok (.if_icmp .ne 7, 3) := by decide +kernel
theorem dX10_debtsOf_26 : decode cX10_debtsOf 26 = .ok (.iconst 1, 1) := by decide +kernel
theorem dX10_debtsOf_27 : decode cX10_debtsOf 27 = .ok (.goto 4, 3) := by decide +kernel
theorem dX10_debtsOf_30 : decode cX10_debtsOf 30 = .ok (.iconst 0, 1) := by decide +kernel
theorem dX10_debtsOf_31 : decode cX10_debtsOf 31 = .ok (.iadd, 1) := by decide +kernel
theorem dX10_debtsOf_32 : decode cX10_debtsOf 32 = .ok (.istore_n 2, 1) := by decide +kernel
theorem dX10_debtsOf_33 : decode cX10_debtsOf 33 = .ok (.iinc 3 1, 3) := by decide +kernel
theorem dX10_debtsOf_36 : decode cX10_debtsOf 36 = .ok (.goto (-32), 3) := by decide +kernel
theorem dX10_debtsOf_39 : decode cX10_debtsOf 39 = .ok (.iload_n 2, 1) := by decide +kernel
theorem dX10_debtsOf_40 : decode cX10_debtsOf 40 = .ok (.ireturn, 1) := by decide +kernel
theorem dX10_drops_0 : decode cX10_drops 0 = .ok (.iconst 5, 1) := by decide +kernel
theorem dX10_drops_1 : decode cX10_drops 1 = .ok (.iload_n 1, 1) := by decide +kernel
theorem dX10_drops_2 : decode cX10_drops 2 = .ok (.imul, 1) := by decide +kernel
theorem dX10_drops_3 : decode cX10_drops 3 = .ok (.istore_n 2, 1) := by decide +kernel
theorem dX10_drops_4 : decode cX10_drops 4 = .ok (.iload_n 2, 1) := by decide +kernel
theorem dX10_drops_5 : decode cX10_drops 5 = .ok (.iconst 5, 1) := by decide +kernel
theorem dX10_drops_6 : decode cX10_drops 6 = .ok (.aload_n 0, 1) := by decide +kernel
theorem dX10_drops_7 : decode cX10_drops 7 = .ok (.getfield 13, 3) := by decide +kernel
theorem dX10_drops_10 : decode cX10_drops 10 = .ok (.bipush 7, 2) := by decide +kernel
theorem dX10_drops_12 : decode cX10_drops 12 = .ok (.iaload, 1) := by decide +kernel
theorem dX10_drops_13 : decode cX10_drops 13 = .ok (.iconst 1, 1) := by decide +kernel
theorem dX10_drops_14 : decode cX10_drops 14 = .ok (.isub, 1) := by decide +kernel
theorem dX10_drops_15 : decode cX10_drops 15 = .ok (.imul, 1) := by decide +kernel
theorem dX10_drops_16 : decode cX10_drops 16 = .ok (.if_icmp .ge 31, 3) := by decide +kernel
theorem dX10_drops_19 : decode cX10_drops 19 = .ok (.aload_n 0, 1) := by decide +kernel
theorem dX10_drops_20 : decode cX10_drops 20 = .ok (.getfield 13, 3) := by decide +kernel
theorem dX10_drops_23 : decode cX10_drops 23 = .ok (.sipush 1880, 3) := by decide +kernel
theorem dX10_drops_26 : decode cX10_drops 26 = .ok (.iload_n 2, 1) := by decide +kernel
theorem dX10_drops_27 : decode cX10_drops 27 = .ok (.iadd, 1) := by decide +kernel
theorem dX10_drops_28 : decode cX10_drops 28 = .ok (.aload_n 0, 1) := by decide +kernel
theorem dX10_drops_29 : decode cX10_drops 29 = .ok (.getfield 13, 3) := by decide +kernel
theorem dX10_drops_32 : decode cX10_drops 32 = .ok (.sipush 1880, 3) := by decide +kernel
theorem dX10_drops_35 : decode cX10_drops 35 = .ok (.iload_n 2, 1) := by decide +kernel
theorem dX10_drops_36 : decode cX10_drops 36 = .ok (.iadd, 1) := by decide +kernel
theorem dX10_drops_37 : decode cX10_drops 37 = .ok (.iconst 5, 1) := by decide +kernel
theorem dX10_drops_38 : decode cX10_drops 38 = .ok (.iadd, 1) := by decide +kernel
theorem dX10_drops_39 : decode cX10_drops 39 = .ok (.iaload, 1) := by decide +kernel
theorem dX10_drops_40 : decode cX10_drops 40 = .ok (.iastore, 1) := by decide +kernel
theorem dX10_drops_41 : decode cX10_drops 41 = .ok (.iinc 2 1, 3) := by decide +kernel
theorem dX10_drops_44 : decode cX10_drops 44 = .ok (.goto (-40), 3) := by decide +kernel
theorem dX10_drops_47 : decode cX10_drops 47 = .ok (.aload_n 0, 1) := by decide +kernel
theorem dX10_drops_48 : decode cX10_drops 48 = .ok (.getfield 13, 3) := by decide +kernel
theorem dX10_drops_51 : decode cX10_drops 51 = .ok (.bipush 7, 2) := by decide +kernel
theorem dX10_drops_53 : decode cX10_drops 53 = .ok (.dup2, 1) := by decide +kernel
theorem dX10_drops_54 : decode cX10_drops 54 = .ok (.iaload, 1) := by decide +kernel
theorem dX10_drops_55 : decode cX10_drops 55 = .ok (.iconst 1, 1) := by decide +kernel
theorem dX10_drops_56 : decode cX10_drops 56 = .ok (.isub, 1) := by decide +kernel
theorem dX10_drops_57 : decode cX10_drops 57 = .ok (.iastore, 1) := by decide +kernel
theorem dX10_drops_58 : decode cX10_drops 58 = .ok (.return_, 1) := by decide +kernel
theorem dX10_pays_0 : decode cX10_pays 0 = .ok (.iconst 0, 1) := by decide +kernel
theorem dX10_pays_1 : decode cX10_pays 1 = .ok (.istore 4, 2) := by decide +kernel
theorem dX10_pays_3 : decode cX10_pays 3 = .ok (.aload_n 0, 1) := by decide +kernel
theorem dX10_pays_4 : decode cX10_pays 4 = .ok (.getfield 13, 3) := by decide +kernel
theorem dX10_pays_7 : decode cX10_pays 7 = .ok (.bipush 7, 2) := by decide +kernel
theorem dX10_pays_9 : decode cX10_pays 9 = .ok (.iaload, 1) := by decide +kernel
theorem dX10_pays_10 : decode cX10_pays 10 = .ok (.iconst 1, 1) := by decide +kernel
theorem dX10_pays_11 : decode cX10_pays 11 = .ok (.isub, 1) := by decide +kernel
theorem dX10_pays_12 : decode cX10_pays 12 = .ok (.istore 5, 2) := by decide +kernel
theorem dX10_pays_14 : decode cX10_pays 14 = .ok (.iload 5, 2) := by decide +kernel
theorem dX10_pays_16 : decode cX10_pays 16 = .ok (.ifCond .lt 54, 3) := by decide +kernel
theorem dX10_pays_19 : decode cX10_pays 19 = .ok (.aload_n 0, 1) := by decide +kernel
theorem dX10_pays_20 : decode cX10_pays 20 = .ok (.iload 5, 2) := by decide +kernel
theorem dX10_pays_22 : decode cX10_pays 22 = .ok (.iconst 0, 1) := by decide +kernel
theorem dX10_pays_23 : decode cX10_pays 23 = .ok (.invokevirtual 325, 3) := by decide +kernel
theorem dX10_pays_26 : decode cX10_pays 26 = .ok (.iload_n 1, 1) := by decide +kernel
theorem dX10_pays_27 : decode cX10_pays 27 = .ok (.if_icmp .ne 37, 3) := by decide +kernel
theorem dX10_pays_30 : decode cX10_pays 30 = .ok (.aload_n 0, 1) := by decide +kernel
theorem dX10_pays_31 : decode cX10_pays 31 = .ok (.iload 5, 2) := by decide +kernel
theorem dX10_pays_33 : decode cX10_pays 33 = .ok (.iconst 1, 1) := by decide +kernel
theorem dX10_pays_34 : decode cX10_pays 34 = .ok (.invokevirtual 325, 3) := by decide +kernel
theorem dX10_pays_37 : decode cX10_pays 37 = .ok (.iload_n 2, 1) := by decide +kernel
theorem dX10_pays_38 : decode cX10_pays 38 = .ok (.if_icmp .ne 26, 3) := by decide +kernel
theorem dX10_pays_41 : decode cX10_pays 41 = .ok (.aload_n 0, 1) := by decide +kernel
theorem dX10_pays_42 : decode cX10_pays 42 = .ok (.iload 5, 2) := by decide +kernel
theorem dX10_pays_44 : decode cX10_pays 44 = .ok (.iconst 2, 1) := by decide +kernel
theorem dX10_pays_45 : decode cX10_pays 45 = .ok (.invokevirtual 325, 3) := by decide +kernel
theorem dX10_pays_48 : decode cX10_pays 48 = .ok (.iload_n 3, 1) := by decide +kernel
theorem dX10_pays_49 : decode cX10_pays 49 = .ok (.if_icmp .le 6, 3) := by decide +kernel
theorem dX10_pays_52 : decode cX10_pays 52 = .ok (.goto 12, 3) := by decide +kernel
theorem dX10_pays_55 : decode cX10_pays 55 = .ok (.aload_n 0, 1) := by decide +kernel
theorem dX10_pays_56 : decode cX10_pays 56 = .ok (.iload 5, 2) := by decide +kernel
theorem dX10_pays_58 : decode cX10_pays 58 = .ok (.invokevirtual 328, 3) := by decide +kernel
theorem dX10_pays_61 : decode cX10_pays 61 = .ok (.iinc 4 1, 3) := by decide +kernel
theorem dX10_pays_64 : decode cX10_pays 64 = .ok (.iinc 5 (-1), 3) := by decide +kernel
theorem dX10_pays_67 : decode cX10_pays 67 = .ok (.goto (-53), 3) := by decide +kernel
theorem dX10_pays_70 : decode cX10_pays 70 = .ok (.iload 4, 2) := by decide +kernel
theorem dX10_pays_72 : decode cX10_pays 72 = .ok (.ireturn, 1) := by decide +kernel
theorem dX10_owesAlready_0 : decode cX10_owesAlready 0 = .ok (.iconst 0, 1) := by decide +kernel
theorem dX10_owesAlready_1 : decode cX10_owesAlready 1 = .ok (.istore 4, 2) := by decide +kernel
theorem dX10_owesAlready_3 : decode cX10_owesAlready 3 = .ok (.iload 4, 2) := by decide +kernel
theorem dX10_owesAlready_5 : decode cX10_owesAlready 5 = .ok (.aload_n 0, 1) := by decide +kernel
theorem dX10_owesAlready_6 : decode cX10_owesAlready 6 = .ok (.getfield 13, 3) := by decide +kernel
theorem dX10_owesAlready_9 : decode cX10_owesAlready 9 = .ok (.bipush 7, 2) := by decide +kernel
theorem dX10_owesAlready_11 : decode cX10_owesAlready 11 = .ok (.iaload, 1) := by decide +kernel
theorem dX10_owesAlready_12 : decode cX10_owesAlready 12 = .ok (.if_icmp .ge 44, 3) := by decide +kernel
theorem dX10_owesAlready_15 : decode cX10_owesAlready 15 = .ok (.aload_n 0, 1) := by decide +kernel
theorem dX10_owesAlready_16 : decode cX10_owesAlready 16 = .ok (.iload 4, 2) := by decide +kernel
theorem dX10_owesAlready_18 : decode cX10_owesAlready 18 = .ok (.iconst 0, 1) := by decide +kernel
theorem dX10_owesAlready_19 : decode cX10_owesAlready 19 = .ok (.invokevirtual 325, 3) := by decide +kernel
theorem dX10_owesAlready_22 : decode cX10_owesAlready 22 = .ok (.iload_n 1, 1) := by decide +kernel
theorem dX10_owesAlready_23 : decode cX10_owesAlready 23 = .ok (.if_icmp .ne 27, 3) := by decide +kernel
theorem dX10_owesAlready_26 : decode cX10_owesAlready 26 = .ok (.aload_n 0, 1) := by decide +kernel
theorem dX10_owesAlready_27 : decode cX10_owesAlready 27 = .ok (.iload 4, 2) := by decide +kernel
theorem dX10_owesAlready_29 : decode cX10_owesAlready 29 = .ok (.iconst 1, 1) := by decide +kernel
theorem dX10_owesAlready_30 : decode cX10_owesAlready 30 = .ok (.invokevirtual 325, 3) := by decide +kernel
theorem dX10_owesAlready_33 : decode cX10_owesAlready 33 = .ok (.iload_n 2, 1) := by decide +kernel
theorem dX10_owesAlready_34 : decode cX10_owesAlready 34 = .ok (.if_icmp .ne 16, 3) := by decide +kernel
theorem dX10_owesAlready_37 : decode cX10_owesAlready 37 = .ok (.aload_n 0, 1) := by decide +kernel
theorem dX10_owesAlready_38 : decode cX10_owesAlready 38 = .ok (.iload 4, 2) := by decide +kernel
theorem dX10_owesAlready_40 : decode cX10_owesAlready 40 = .ok (.iconst 2, 1) := by decide +kernel
theorem dX10_owesAlready_41 : decode cX10_owesAlready 41 = .ok (.invokevirtual 325, 3) := by decide +kernel
theorem dX10_owesAlready_44 : decode cX10_owesAlready 44 = .ok (.iload_n 3, 1) := by decide +kernel
theorem dX10_owesAlready_45 : decode cX10_owesAlready 45 = .ok (.if_icmp .ne 5, 3) := by decide +kernel
theorem dX10_owesAlready_48 : decode cX10_owesAlready 48 = .ok (.iconst 1, 1) := by decide +kernel
theorem dX10_owesAlready_49 : decode cX10_owesAlready 49 = .ok (.ireturn, 1) := by decide +kernel
theorem dX10_owesAlready_50 : decode cX10_owesAlready 50 = .ok (.iinc 4 1, 3) := by decide +kernel
theorem dX10_owesAlready_53 : decode cX10_owesAlready 53 = .ok (.goto (-50), 3) := by decide +kernel
theorem dX10_owesAlready_56 : decode cX10_owesAlready 56 = .ok (.iconst 0, 1) := by decide +kernel
theorem dX10_owesAlready_57 : decode cX10_owesAlready 57 = .ok (.ireturn, 1) := by decide +kernel
theorem dX10_partOf_0 : decode cX10_partOf 0 = .ok (.aload_n 0, 1) := by decide +kernel
theorem dX10_partOf_1 : decode cX10_partOf 1 = .ok (.getfield 13, 3) := by decide +kernel
theorem dX10_partOf_4 : decode cX10_partOf 4 = .ok (.sipush 814, 3) := by decide +kernel
theorem dX10_partOf_7 : decode cX10_partOf 7 = .ok (.iconst 3, 1) := by decide +kernel
theorem dX10_partOf_8 : decode cX10_partOf 8 = .ok (.iload_n 1, 1) := by decide +kernel
theorem dX10_partOf_9 : decode cX10_partOf 9 = .ok (.imul, 1) := by decide +kernel
theorem dX10_partOf_10 : decode cX10_partOf 10 = .ok (.iadd, 1) := by decide +kernel
theorem dX10_partOf_11 : decode cX10_partOf 11 = .ok (.iconst 1, 1) := by decide +kernel
theorem dX10_partOf_12 : decode cX10_partOf 12 = .ok (.iadd, 1) := by decide +kernel
theorem dX10_partOf_13 : decode cX10_partOf 13 = .ok (.iaload, 1) := by decide +kernel
theorem dX10_partOf_14 : decode cX10_partOf 14 = .ok (.istore_n 2, 1) := by decide +kernel
theorem dX10_partOf_15 : decode cX10_partOf 15 = .ok (.iload_n 2, 1) := by decide +kernel
theorem dX10_partOf_16 : decode cX10_partOf 16 = .ok (.iconst 5, 1) := by decide +kernel
theorem dX10_partOf_17 : decode cX10_partOf 17 = .ok (.if_icmp .ne 21, 3) := by decide +kernel
theorem dX10_partOf_20 : decode cX10_partOf 20 = .ok (.aload_n 0, 1) := by decide +kernel
theorem dX10_partOf_21 : decode cX10_partOf 21 = .ok (.getfield 13, 3) := by decide +kernel
theorem dX10_partOf_24 : decode cX10_partOf 24 = .ok (.sipush 814, 3) := by decide +kernel
theorem dX10_partOf_27 : decode cX10_partOf 27 = .ok (.iconst 3, 1) := by decide +kernel
theorem dX10_partOf_28 : decode cX10_partOf 28 = .ok (.iload_n 1, 1) := by decide +kernel
theorem dX10_partOf_29 : decode cX10_partOf 29 = .ok (.imul, 1) := by decide +kernel
theorem dX10_partOf_30 : decode cX10_partOf 30 = .ok (.iadd, 1) := by decide +kernel
theorem dX10_partOf_31 : decode cX10_partOf 31 = .ok (.iconst 2, 1) := by decide +kernel
theorem dX10_partOf_32 : decode cX10_partOf 32 = .ok (.iadd, 1) := by decide +kernel
theorem dX10_partOf_33 : decode cX10_partOf 33 = .ok (.iaload, 1) := by decide +kernel
theorem dX10_partOf_34 : decode cX10_partOf 34 = .ok (.i2l, 1) := by decide +kernel
theorem dX10_partOf_35 : decode cX10_partOf 35 = .ok (.goto 10, 3) := by decide +kernel
theorem dX10_partOf_38 : decode cX10_partOf 38 = .ok (.aload_n 0, 1) := by decide +kernel
theorem dX10_partOf_39 : decode cX10_partOf 39 = .ok (.getfield 37, 3) := by decide +kernel
theorem dX10_partOf_42 : decode cX10_partOf 42 = .ok (.iload_n 2, 1) := by decide +kernel
theorem dX10_partOf_43 : decode cX10_partOf 43 = .ok (.iaload, 1) := by decide +kernel
theorem dX10_partOf_44 : decode cX10_partOf 44 = .ok (.i2l, 1) := by decide +kernel
theorem dX10_partOf_45 : decode cX10_partOf 45 = .ok (.lreturn, 1) := by decide +kernel
theorem dX10_testHolds_0 : decode cX10_testHolds 0 = .ok (.aload_n 0, 1) := by decide +kernel
theorem dX10_testHolds_1 : decode cX10_testHolds 1 = .ok (.getfield 13, 3) := by decide +kernel
theorem dX10_testHolds_4 : decode cX10_testHolds 4 = .ok (.sipush 274, 3) := by decide +kernel
theorem dX10_testHolds_7 : decode cX10_testHolds 7 = .ok (.iconst 3, 1) := by decide +kernel
theorem dX10_testHolds_8 : decode cX10_testHolds 8 = .ok (.iload_n 1, 1) := by decide +kernel
theorem dX10_testHolds_9 : decode cX10_testHolds 9 = .ok (.imul, 1) := by decide +kernel
theorem dX10_testHolds_10 : decode cX10_testHolds 10 = .ok (.iadd, 1) := by decide +kernel
theorem dX10_testHolds_11 : decode cX10_testHolds 11 = .ok (.iconst 1, 1) := by decide +kernel
theorem dX10_testHolds_12 : decode cX10_testHolds 12 = .ok (.iadd, 1) := by decide +kernel
theorem dX10_testHolds_13 : decode cX10_testHolds 13 = .ok (.iaload, 1) := by decide +kernel
theorem dX10_testHolds_14 : decode cX10_testHolds 14 = .ok (.istore_n 2, 1) := by decide +kernel
theorem dX10_testHolds_15 : decode cX10_testHolds 15 = .ok (.iload_n 2, 1) := by decide +kernel
theorem dX10_testHolds_16 : decode cX10_testHolds 16 = .ok (.aload_n 0, 1) := by decide +kernel
theorem dX10_testHolds_17 : decode cX10_testHolds 17 = .ok (.getfield 13, 3) := by decide +kernel
theorem dX10_testHolds_20 : decode cX10_testHolds 20 = .ok (.sipush 274, 3) := by decide +kernel
theorem dX10_testHolds_23 : decode cX10_testHolds 23 = .ok (.iconst 3, 1) := by decide +kernel
theorem dX10_testHolds_24 : decode cX10_testHolds 24 = .ok (.iload_n 1, 1) := by decide +kernel
theorem dX10_testHolds_25 : decode cX10_testHolds 25 = .ok (.imul, 1) := by decide +kernel
theorem dX10_testHolds_26 : decode cX10_testHolds 26 = .ok (.iadd, 1) := by decide +kernel
theorem dX10_testHolds_27 : decode cX10_testHolds 27 = .ok (.iconst 2, 1) := by decide +kernel
theorem dX10_testHolds_28 : decode cX10_testHolds 28 = .ok (.iadd, 1) := by decide +kernel
theorem dX10_testHolds_29 : decode cX10_testHolds 29 = .ok (.iaload, 1) := by decide +kernel
theorem dX10_testHolds_30 : decode cX10_testHolds 30 = .ok (.iadd, 1) := by decide +kernel
theorem dX10_testHolds_31 : decode cX10_testHolds 31 = .ok (.istore_n 3, 1) := by decide +kernel
theorem dX10_testHolds_32 : decode cX10_testHolds 32 = .ok (.lconst 0, 1) := by decide +kernel
theorem dX10_testHolds_33 : decode cX10_testHolds 33 = .ok (.lstore 4, 2) := by decide +kernel
theorem dX10_testHolds_35 : decode cX10_testHolds 35 = .ok (.lconst 0, 1) := by decide +kernel
theorem dX10_testHolds_36 : decode cX10_testHolds 36 = .ok (.lstore 6, 2) := by decide +kernel
theorem dX10_testHolds_38 : decode cX10_testHolds 38 = .ok (.iload_n 2, 1) := by decide +kernel
theorem dX10_testHolds_39 : decode cX10_testHolds 39 = .ok (.iload_n 3, 1) := by decide +kernel
theorem dX10_testHolds_40 : decode cX10_testHolds 40 = .ok (.if_icmp .ge 133, 3) := by decide +kernel
theorem dX10_testHolds_43 : decode cX10_testHolds 43 = .ok (.aload_n 0, 1) := by decide +kernel
theorem dX10_testHolds_44 : decode cX10_testHolds 44 = .ok (.getfield 13, 3) := by decide +kernel
theorem dX10_testHolds_47 : decode cX10_testHolds 47 = .ok (.sipush 814, 3) := by decide +kernel
theorem dX10_testHolds_50 : decode cX10_testHolds 50 = .ok (.iconst 3, 1) := by decide +kernel
theorem dX10_testHolds_51 : decode cX10_testHolds 51 = .ok (.iload_n 2, 1) := by decide +kernel
theorem dX10_testHolds_52 : decode cX10_testHolds 52 = .ok (.imul, 1) := by decide +kernel
theorem dX10_testHolds_53 : decode cX10_testHolds 53 = .ok (.iadd, 1) := by decide +kernel
theorem dX10_testHolds_54 : decode cX10_testHolds 54 = .ok (.iaload, 1) := by decide +kernel
theorem dX10_testHolds_55 : decode cX10_testHolds 55 = .ok (.istore 8, 2) := by decide +kernel
theorem dX10_testHolds_57 : decode cX10_testHolds 57 = .ok (.aload_n 0, 1) := by decide +kernel
theorem dX10_testHolds_58 : decode cX10_testHolds 58 = .ok (.iload_n 2, 1) := by decide +kernel
theorem dX10_testHolds_59 : decode cX10_testHolds 59 = .ok (.invokevirtual 331, 3) := by decide +kernel
theorem dX10_testHolds_62 : decode cX10_testHolds 62 = .ok (.lstore 9, 2) := by decide +kernel
theorem dX10_testHolds_64 : decode cX10_testHolds 64 = .ok (.iinc 2 1, 3) := by decide +kernel
theorem dX10_testHolds_67 : decode cX10_testHolds 67 = .ok (.iload_n 2, 1) := by decide +kernel
theorem dX10_testHolds_68 : decode cX10_testHolds 68 = .ok (.iload_n 3, 1) := by decide +kernel
theorem dX10_testHolds_69 : decode cX10_testHolds 69 = .ok (.if_icmp .ge 51, 3) := by decide +kernel
theorem dX10_testHolds_72 : decode cX10_testHolds 72 = .ok (.aload_n 0, 1) := by decide +kernel
theorem dX10_testHolds_73 : decode cX10_testHolds 73 = .ok (.getfield 13, 3) := by decide +kernel
theorem dX10_testHolds_76 : decode cX10_testHolds 76 = .ok (.sipush 814, 3) := by decide +kernel
theorem dX10_testHolds_79 : decode cX10_testHolds 79 = .ok (.iconst 3, 1) := by decide +kernel
theorem dX10_testHolds_80 : decode cX10_testHolds 80 = .ok (.iload_n 2, 1) := by decide +kernel
theorem dX10_testHolds_81 : decode cX10_testHolds 81 = .ok (.imul, 1) := by decide +kernel
theorem dX10_testHolds_82 : decode cX10_testHolds 82 = .ok (.iadd, 1) := by decide +kernel
theorem dX10_testHolds_83 : decode cX10_testHolds 83 = .ok (.iaload, 1) := by decide +kernel
theorem dX10_testHolds_84 : decode cX10_testHolds 84 = .ok (.iconst 3, 1) := by decide +kernel
theorem dX10_testHolds_85 : decode cX10_testHolds 85 = .ok (.if_icmp .ne 35, 3) := by decide +kernel
theorem dX10_testHolds_88 : decode cX10_testHolds 88 = .ok (.lload 9, 2) := by decide +kernel
theorem dX10_testHolds_90 : decode cX10_testHolds 90 = .ok (.aload_n 0, 1) := by decide +kernel
theorem dX10_testHolds_91 : decode cX10_testHolds 91 = .ok (.iload_n 2, 1) := by decide +kernel
theorem dX10_testHolds_92 : decode cX10_testHolds 92 = .ok (.invokevirtual 331, 3) := by decide +kernel
theorem dX10_testHolds_95 : decode cX10_testHolds 95 = .ok (.lmul, 1) := by decide +kernel
theorem dX10_testHolds_96 : decode cX10_testHolds 96 = .ok (.lstore 9, 2) := by decide +kernel
theorem dX10_testHolds_98 : decode cX10_testHolds 98 = .ok (.lload 9, 2) := by decide +kernel
theorem dX10_testHolds_100 : decode cX10_testHolds 100 = .ok (.ldc2_w 335, 3) := by decide +kernel
theorem dX10_testHolds_103 : decode cX10_testHolds 103 = .ok (.ldc2_w 337, 3) := by decide +kernel
theorem dX10_testHolds_106 : decode cX10_testHolds 106 = .ok (.invokestatic 101, 3) := by decide +kernel
theorem dX10_testHolds_109 : decode cX10_testHolds 109 = .ok (.ifCond .ne 5, 3) := by decide +kernel
theorem dX10_testHolds_112 : decode cX10_testHolds 112 = .ok (.iconst 0, 1) := by decide +kernel
theorem dX10_testHolds_113 : decode cX10_testHolds 113 = .ok (.ireturn, 1) := by decide +kernel
theorem dX10_testHolds_114 : decode cX10_testHolds 114 = .ok (.iinc 2 1, 3) := by decide +kernel
theorem dX10_testHolds_117 : decode cX10_testHolds 117 = .ok (.goto (-50), 3) := by decide +kernel
theorem dX10_testHolds_120 : decode cX10_testHolds 120 = .ok (.iload 8, 2) := by decide +kernel
theorem dX10_testHolds_122 : decode cX10_testHolds 122 = .ok (.iconst 4, 1) := by decide +kernel
theorem dX10_testHolds_123 : decode cX10_testHolds 123 = .ok (.if_icmp .ne 10, 3) := by decide +kernel
theorem dX10_testHolds_126 : decode cX10_testHolds 126 = .ok (.lload 6, 2) := by decide +kernel
theorem dX10_testHolds_128 : decode cX10_testHolds 128 = .ok (.lstore 4, 2) := by decide +kernel
theorem dX10_testHolds_130 : decode cX10_testHolds 130 = .ok (.lconst 0, 1) := by decide +kernel
theorem dX10_testHolds_131 : decode cX10_testHolds 131 = .ok (.lstore 6, 2) := by decide +kernel
theorem dX10_testHolds_133 : decode cX10_testHolds 133 = .ok (.iload 8, 2) := by decide +kernel
theorem dX10_testHolds_135 : decode cX10_testHolds 135 = .ok (.iconst 2, 1) := by decide +kernel
theorem dX10_testHolds_136 : decode cX10_testHolds 136 = .ok (.if_icmp .ne 11, 3) := by decide +kernel
theorem dX10_testHolds_139 : decode cX10_testHolds 139 = .ok (.lload 6, 2) := by decide +kernel
theorem dX10_testHolds_141 : decode cX10_testHolds 141 = .ok (.lload 9, 2) := by decide +kernel
theorem dX10_testHolds_143 : decode cX10_testHolds 143 = .ok (.lsub, 1) := by decide +kernel
theorem dX10_testHolds_144 : decode cX10_testHolds 144 = .ok (.goto 8, 3) := by decide +kernel
theorem dX10_testHolds_147 : decode cX10_testHolds 147 = .ok (.lload 6, 2) := by decide +kernel
theorem dX10_testHolds_149 : decode cX10_testHolds 149 = .ok (.lload 9, 2) := by decide +kernel
theorem dX10_testHolds_151 : decode cX10_testHolds 151 = .ok (.ladd, 1) := by decide +kernel
theorem dX10_testHolds_152 : decode cX10_testHolds 152 = .ok (.lstore 6, 2) := by decide +kernel
theorem dX10_testHolds_154 : decode cX10_testHolds 154 = .ok (.lload 6, 2) := by decide +kernel
theorem dX10_testHolds_156 : decode cX10_testHolds 156 = .ok (.ldc2_w 335, 3) := by decide +kernel
theorem dX10_testHolds_159 : decode cX10_testHolds 159 = .ok (.ldc2_w 337, 3) := by decide +kernel
theorem dX10_testHolds_162 : decode cX10_testHolds 162 = .ok (.invokestatic 101, 3) := by decide +kernel
theorem dX10_testHolds_165 : decode cX10_testHolds 165 = .ok (.ifCond .ne 5, 3) := by decide +kernel
theorem dX10_testHolds_168 : decode cX10_testHolds 168 = .ok (.iconst 0, 1) := by decide +kernel
theorem dX10_testHolds_169 : decode cX10_testHolds 169 = .ok (.ireturn, 1) := by decide +kernel
theorem dX10_testHolds_170 : decode cX10_testHolds 170 = .ok (.goto (-132), 3) := by decide +kernel
theorem dX10_testHolds_173 : decode cX10_testHolds 173 = .ok (.aload_n 0, 1) := by decide +kernel
theorem dX10_testHolds_174 : decode cX10_testHolds 174 = .ok (.getfield 13, 3) := by decide +kernel
theorem dX10_testHolds_177 : decode cX10_testHolds 177 = .ok (.sipush 274, 3) := by decide +kernel
theorem dX10_testHolds_180 : decode cX10_testHolds 180 = .ok (.iconst 3, 1) := by decide +kernel
theorem dX10_testHolds_181 : decode cX10_testHolds 181 = .ok (.iload_n 1, 1) := by decide +kernel
theorem dX10_testHolds_182 : decode cX10_testHolds 182 = .ok (.imul, 1) := by decide +kernel
theorem dX10_testHolds_183 : decode cX10_testHolds 183 = .ok (.iadd, 1) := by decide +kernel
theorem dX10_testHolds_184 : decode cX10_testHolds 184 = .ok (.iaload, 1) := by decide +kernel
theorem dX10_testHolds_185 : decode cX10_testHolds 185 = .ok (.istore 8, 2) := by decide +kernel
theorem dX10_testHolds_187 : decode cX10_testHolds 187 = .ok (.iload 8, 2) := by decide +kernel
theorem dX10_testHolds_189 : decode cX10_testHolds 189 = .ok (.ifCond .ne 19, 3) := by decide +kernel
theorem dX10_testHolds_192 : decode cX10_testHolds 192 = .ok (.lload 4, 2) := by decide +kernel
theorem dX10_testHolds_194 : decode cX10_testHolds 194 = .ok (.lload 6, 2) := by decide +kernel
theorem dX10_testHolds_196 : decode cX10_testHolds 196 = .ok (.lcmp, 1) := by decide +kernel
theorem dX10_testHolds_197 : decode cX10_testHolds 197 = .ok (.ifCond .le 7, 3) := by decide +kernel
theorem dX10_testHolds_200 : decode cX10_testHolds 200 = .ok (.iconst 1, 1) := by decide +kernel
theorem dX10_testHolds_201 : decode cX10_testHolds 201 = .ok (.goto 42, 3) := by decide +kernel
theorem dX10_testHolds_204 : decode cX10_testHolds 204 = .ok (.iconst 0, 1) := by decide +kernel
theorem dX10_testHolds_205 : decode cX10_testHolds 205 = .ok (.goto 38, 3) := by decide +kernel
theorem dX10_testHolds_208 : decode cX10_testHolds 208 = .ok (.iload 8, 2) := by decide +kernel
theorem dX10_testHolds_210 : decode cX10_testHolds 210 = .ok (.iconst 1, 1) := by decide +kernel
theorem dX10_testHolds_211 : decode cX10_testHolds 211 = .ok (.if_icmp .ne 19, 3) := by decide +kernel
theorem dX10_testHolds_214 : decode cX10_testHolds 214 = .ok (.lload 4, 2) := by decide +kernel
theorem dX10_testHolds_216 : decode cX10_testHolds 216 = .ok (.lload 6, 2) := by decide +kernel
theorem dX10_testHolds_218 : decode cX10_testHolds 218 = .ok (.lcmp, 1) := by decide +kernel
theorem dX10_testHolds_219 : decode cX10_testHolds 219 = .ok (.ifCond .ge 7, 3) := by decide +kernel
theorem dX10_testHolds_222 : decode cX10_testHolds 222 = .ok (.iconst 1, 1) := by decide +kernel
theorem dX10_testHolds_223 : decode cX10_testHolds 223 = .ok (.goto 20, 3) := by decide +kernel
theorem dX10_testHolds_226 : decode cX10_testHolds 226 = .ok (.iconst 0, 1) := by decide +kernel
theorem dX10_testHolds_227 : decode cX10_testHolds 227 = .ok (.goto 16, 3) := by decide +kernel
theorem dX10_testHolds_230 : decode cX10_testHolds 230 = .ok (.lload 4, 2) := by decide +kernel
theorem dX10_testHolds_232 : decode cX10_testHolds 232 = .ok (.lload 6, 2) := by decide +kernel
theorem dX10_testHolds_234 : decode cX10_testHolds 234 = .ok (.lcmp, 1) := by decide +kernel
theorem dX10_testHolds_235 : decode cX10_testHolds 235 = .ok (.ifCond .ne 7, 3) := by decide +kernel
theorem dX10_testHolds_238 : decode cX10_testHolds 238 = .ok (.iconst 1, 1) := by decide +kernel
theorem dX10_testHolds_239 : decode cX10_testHolds 239 = .ok (.goto 4, 3) := by decide +kernel
theorem dX10_testHolds_242 : decode cX10_testHolds 242 = .ok (.iconst 0, 1) := by decide +kernel
theorem dX10_testHolds_243 : decode cX10_testHolds 243 = .ok (.ireturn, 1) := by decide +kernel
theorem dX10_lineFor_0 : decode cX10_lineFor 0 = .ok (.aload_n 0, 1) := by decide +kernel
theorem dX10_lineFor_1 : decode cX10_lineFor 1 = .ok (.getfield 37, 3) := by decide +kernel
theorem dX10_lineFor_4 : decode cX10_lineFor 4 = .ok (.iconst 0, 1) := by decide +kernel
theorem dX10_lineFor_5 : decode cX10_lineFor 5 = .ok (.aload_n 0, 1) := by decide +kernel
theorem dX10_lineFor_6 : decode cX10_lineFor 6 = .ok (.iload_n 1, 1) := by decide +kernel
theorem dX10_lineFor_7 : decode cX10_lineFor 7 = .ok (.iconst 2, 1) := by decide +kernel
theorem dX10_lineFor_8 : decode cX10_lineFor 8 = .ok (.invokevirtual 286, 3) := by decide +kernel
theorem dX10_lineFor_11 : decode cX10_lineFor 11 = .ok (.iastore, 1) := by decide +kernel
theorem dX10_lineFor_12 : decode cX10_lineFor 12 = .ok (.aload_n 0, 1) := by decide +kernel
theorem dX10_lineFor_13 : decode cX10_lineFor 13 = .ok (.getfield 37, 3) := by decide +kernel
theorem dX10_lineFor_16 : decode cX10_lineFor 16 = .ok (.iconst 1, 1) := by decide +kernel
theorem dX10_lineFor_17 : decode cX10_lineFor 17 = .ok (.aload_n 0, 1) := by decide +kernel
theorem dX10_lineFor_18 : decode cX10_lineFor 18 = .ok (.iload_n 2, 1) := by decide +kernel
theorem dX10_lineFor_19 : decode cX10_lineFor 19 = .ok (.iconst 2, 1) := by decide +kernel
theorem dX10_lineFor_20 : decode cX10_lineFor 20 = .ok (.invokevirtual 286, 3) := by decide +kernel
theorem dX10_lineFor_23 : decode cX10_lineFor 23 = .ok (.iastore, 1) := by decide +kernel
theorem dX10_lineFor_24 : decode cX10_lineFor 24 = .ok (.aload_n 0, 1) := by decide +kernel
theorem dX10_lineFor_25 : decode cX10_lineFor 25 = .ok (.getfield 37, 3) := by decide +kernel
theorem dX10_lineFor_28 : decode cX10_lineFor 28 = .ok (.iconst 2, 1) := by decide +kernel
theorem dX10_lineFor_29 : decode cX10_lineFor 29 = .ok (.aload_n 0, 1) := by decide +kernel
theorem dX10_lineFor_30 : decode cX10_lineFor 30 = .ok (.iload_n 2, 1) := by decide +kernel
theorem dX10_lineFor_31 : decode cX10_lineFor 31 = .ok (.invokevirtual 339, 3) := by decide +kernel
theorem dX10_lineFor_34 : decode cX10_lineFor 34 = .ok (.iastore, 1) := by decide +kernel
theorem dX10_lineFor_35 : decode cX10_lineFor 35 = .ok (.aload_n 0, 1) := by decide +kernel
theorem dX10_lineFor_36 : decode cX10_lineFor 36 = .ok (.getfield 37, 3) := by decide +kernel
theorem dX10_lineFor_39 : decode cX10_lineFor 39 = .ok (.iconst 3, 1) := by decide +kernel
theorem dX10_lineFor_40 : decode cX10_lineFor 40 = .ok (.iload 5, 2) := by decide +kernel
theorem dX10_lineFor_42 : decode cX10_lineFor 42 = .ok (.iastore, 1) := by decide +kernel
theorem dX10_lineFor_43 : decode cX10_lineFor 43 = .ok (.aload_n 0, 1) := by decide +kernel
theorem dX10_lineFor_44 : decode cX10_lineFor 44 = .ok (.getfield 37, 3) := by decide +kernel
theorem dX10_lineFor_47 : decode cX10_lineFor 47 = .ok (.iconst 4, 1) := by decide +kernel
theorem dX10_lineFor_48 : decode cX10_lineFor 48 = .ok (.iload 4, 2) := by decide +kernel
theorem dX10_lineFor_50 : decode cX10_lineFor 50 = .ok (.ifCond .eq 7, 3) := by decide +kernel
theorem dX10_lineFor_53 : decode cX10_lineFor 53 = .ok (.iconst 1, 1) := by decide +kernel
theorem dX10_lineFor_54 : decode cX10_lineFor 54 = .ok (.goto 4, 3) := by decide +kernel
theorem dX10_lineFor_57 : decode cX10_lineFor 57 = .ok (.iconst 0, 1) := by decide +kernel
theorem dX10_lineFor_58 : decode cX10_lineFor 58 = .ok (.iastore, 1) := by decide +kernel
theorem dX10_lineFor_59 : decode cX10_lineFor 59 = .ok (.iconst 0, 1) := by decide +kernel
theorem dX10_lineFor_60 : decode cX10_lineFor 60 = .ok (.istore 6, 2) := by decide +kernel
theorem dX10_lineFor_62 : decode cX10_lineFor 62 = .ok (.iload 6, 2) := by decide +kernel
theorem dX10_lineFor_64 : decode cX10_lineFor 64 = .ok (.aload_n 0, 1) := by decide +kernel
theorem dX10_lineFor_65 : decode cX10_lineFor 65 = .ok (.getfield 13, 3) := by decide +kernel
theorem dX10_lineFor_68 : decode cX10_lineFor 68 = .ok (.iconst 1, 1) := by decide +kernel
theorem dX10_lineFor_69 : decode cX10_lineFor 69 = .ok (.iaload, 1) := by decide +kernel
theorem dX10_lineFor_70 : decode cX10_lineFor 70 = .ok (.if_icmp .ge 90, 3) := by decide +kernel
theorem dX10_lineFor_73 : decode cX10_lineFor 73 = .ok (.sipush 154, 3) := by decide +kernel
theorem dX10_lineFor_76 : decode cX10_lineFor 76 = .ok (.iconst 5, 1) := by decide +kernel
theorem dX10_lineFor_77 : decode cX10_lineFor 77 = .ok (.iload 6, 2) := by decide +kernel
theorem dX10_lineFor_79 : decode cX10_lineFor 79 = .ok (.imul, 1) := by decide +kernel
theorem dX10_lineFor_80 : decode cX10_lineFor 80 = .ok (.iadd, 1) := by decide +kernel
theorem dX10_lineFor_81 : decode cX10_lineFor 81 = .ok (.istore 7, 2) := by decide +kernel
theorem dX10_lineFor_83 : decode cX10_lineFor 83 = .ok (.aload_n 0, 1) := by decide +kernel
theorem dX10_lineFor_84 : decode cX10_lineFor 84 = .ok (.getfield 13, 3) := by decide +kernel
theorem dX10_lineFor_87 : decode cX10_lineFor 87 = .ok (.iload 7, 2) := by decide +kernel
theorem dX10_lineFor_89 : decode cX10_lineFor 89 = .ok (.iaload, 1) := by decide +kernel
theorem dX10_lineFor_90 : decode cX10_lineFor 90 = .ok (.iload_n 3, 1) := by decide +kernel
theorem dX10_lineFor_91 : decode cX10_lineFor 91 = .ok (.if_icmp .eq 6, 3) := by decide +kernel
theorem dX10_lineFor_94 : decode cX10_lineFor 94 = .ok (.goto 60, 3) := by decide +kernel
theorem dX10_lineFor_97 : decode cX10_lineFor 97 = .ok (.iconst 1, 1) := by decide +kernel
theorem dX10_lineFor_98 : decode cX10_lineFor 98 = .ok (.istore 8, 2) := by decide +kernel
theorem dX10_lineFor_100 : decode cX10_lineFor 100 = .ok (.iconst 0, 1) := by decide +kernel
theorem dX10_lineFor_101 : decode cX10_lineFor 101 = .ok (.istore 9, 2) := by decide +kernel
theorem dX10_lineFor_103 : decode cX10_lineFor 103 = .ok (.iload 9, 2) := by decide +kernel
theorem dX10_lineFor_105 : decode cX10_lineFor 105 = .ok (.aload_n 0, 1) := by decide +kernel
theorem dX10_lineFor_106 : decode cX10_lineFor 106 = .ok (.getfield 13, 3) := by decide +kernel
theorem dX10_lineFor_109 : decode cX10_lineFor 109 = .ok (.iload 7, 2) := by decide +kernel
theorem dX10_lineFor_111 : decode cX10_lineFor 111 = .ok (.iconst 4, 1) := by decide +kernel
theorem dX10_lineFor_112 : decode cX10_lineFor 112 = .ok (.iadd, 1) := by decide +kernel
theorem dX10_lineFor_113 : decode cX10_lineFor 113 = .ok (.iaload, 1) := by decide +kernel
theorem dX10_lineFor_114 : decode cX10_lineFor 114 = .ok (.if_icmp .ge 32, 3) := by decide +kernel
theorem dX10_lineFor_117 : decode cX10_lineFor 117 = .ok (.iload 8, 2) := by decide +kernel
theorem dX10_lineFor_119 : decode cX10_lineFor 119 = .ok (.ifCond .eq 27, 3) := by decide +kernel
theorem dX10_lineFor_122 : decode cX10_lineFor 122 = .ok (.aload_n 0, 1) := by decide +kernel
theorem dX10_lineFor_123 : decode cX10_lineFor 123 = .ok (.aload_n 0, 1) := by decide +kernel
theorem dX10_lineFor_124 : decode cX10_lineFor 124 = .ok (.getfield 13, 3) := by decide +kernel
theorem dX10_lineFor_127 : decode cX10_lineFor 127 = .ok (.iload 7, 2) := by decide +kernel
theorem dX10_lineFor_129 : decode cX10_lineFor 129 = .ok (.iconst 3, 1) := by decide +kernel
theorem dX10_lineFor_130 : decode cX10_lineFor 130 = .ok (.iadd, 1) := by decide +kernel
theorem dX10_lineFor_131 : decode cX10_lineFor 131 = .ok (.iaload, 1) := by decide +kernel
theorem dX10_lineFor_132 : decode cX10_lineFor 132 = .ok (.iload 9, 2) := by decide +kernel
theorem dX10_lineFor_134 : decode cX10_lineFor 134 = .ok (.iadd, 1) := by decide +kernel
theorem dX10_lineFor_135 : decode cX10_lineFor 135 = .ok (.invokevirtual 342, 3) := by decide +kernel
theorem dX10_lineFor_138 : decode cX10_lineFor 138 = .ok (.istore 8, 2) := by decide +kernel
theorem dX10_lineFor_140 : decode cX10_lineFor 140 = .ok (.iinc 9 1, 3) := by decide +kernel
theorem dX10_lineFor_143 : decode cX10_lineFor 143 = .ok (.goto (-40), 3) := by decide +kernel
theorem dX10_lineFor_146 : decode cX10_lineFor 146 = .ok (.iload 8, 2) := by decide +kernel
theorem dX10_lineFor_148 : decode cX10_lineFor 148 = .ok (.ifCond .eq 6, 3) := by decide +kernel
theorem dX10_lineFor_151 : decode cX10_lineFor 151 = .ok (.iload 6, 2) := by decide +kernel
theorem dX10_lineFor_153 : decode cX10_lineFor 153 = .ok (.ireturn, 1) := by decide +kernel
theorem dX10_lineFor_154 : decode cX10_lineFor 154 = .ok (.iinc 6 1, 3) := by decide +kernel
theorem dX10_lineFor_157 : decode cX10_lineFor 157 = .ok (.goto (-95), 3) := by decide +kernel
theorem dX10_lineFor_160 : decode cX10_lineFor 160 = .ok (.iconst (-1), 1) := by decide +kernel
theorem dX10_lineFor_161 : decode cX10_lineFor 161 = .ok (.ireturn, 1) := by decide +kernel
theorem dX10_comes_0 : decode cX10_comes 0 = .ok (.sipush 1880, 3) := by decide +kernel
theorem dX10_comes_3 : decode cX10_comes 3 = .ok (.iconst 5, 1) := by decide +kernel
theorem dX10_comes_4 : decode cX10_comes 4 = .ok (.aload_n 0, 1) := by decide +kernel
theorem dX10_comes_5 : decode cX10_comes 5 = .ok (.getfield 13, 3) := by decide +kernel
theorem dX10_comes_8 : decode cX10_comes 8 = .ok (.bipush 7, 2) := by decide +kernel
theorem dX10_comes_10 : decode cX10_comes 10 = .ok (.iaload, 1) := by decide +kernel
theorem dX10_comes_11 : decode cX10_comes 11 = .ok (.imul, 1) := by decide +kernel
theorem dX10_comes_12 : decode cX10_comes 12 = .ok (.iadd, 1) := by decide +kernel
theorem dX10_comes_13 : decode cX10_comes 13 = .ok (.istore 6, 2) := by decide +kernel
theorem dX10_comes_15 : decode cX10_comes 15 = .ok (.aload_n 0, 1) := by decide +kernel
theorem dX10_comes_16 : decode cX10_comes 16 = .ok (.getfield 13, 3) := by decide +kernel
theorem dX10_comes_19 : decode cX10_comes 19 = .ok (.iload 6, 2) := by decide +kernel
theorem dX10_comes_21 : decode cX10_comes 21 = .ok (.iload_n 1, 1) := by decide +kernel
theorem dX10_comes_22 : decode cX10_comes 22 = .ok (.iastore, 1) := by decide +kernel
theorem dX10_comes_23 : decode cX10_comes 23 = .ok (.aload_n 0, 1) := by decide +kernel
