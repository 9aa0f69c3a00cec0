theorem dX8_init_27 : decode cX8_init 27 = .ok (.putfield 22, 3) := by decide +kernel
theorem dX8_init_30 : decode cX8_init 30 = .ok (.aload_n 0, 1) := by decide +kernel
theorem dX8_init_31 : decode cX8_init 31 = .ok (.bipush 13, 2) := by decide +kernel
theorem dX8_init_33 : decode cX8_init 33 = .ok (.newarray .int, 2) := by decide +kernel
theorem dX8_init_35 : decode cX8_init 35 = .ok (.putfield 25, 3) := by decide +kernel
theorem dX8_init_38 : decode cX8_init 38 = .ok (.aload_n 0, 1) := by decide +kernel
theorem dX8_init_39 : decode cX8_init 39 = .ok (.bipush 13, 2) := by decide +kernel
theorem dX8_init_41 : decode cX8_init 41 = .ok (.newarray .int, 2) := by decide +kernel
theorem dX8_init_43 : decode cX8_init 43 = .ok (.putfield 28, 3) := by decide +kernel
theorem dX8_init_46 : decode cX8_init 46 = .ok (.aload_n 0, 1) := by decide +kernel
theorem dX8_init_47 : decode cX8_init 47 = .ok (.sipush 8192, 3) := by decide +kernel
theorem dX8_init_50 : decode cX8_init 50 = .ok (.newarray .int, 2) := by decide +kernel
theorem dX8_init_52 : decode cX8_init 52 = .ok (.putfield 31, 3) := by decide +kernel
theorem dX8_init_55 : decode cX8_init 55 = .ok (.aload_n 0, 1) := by decide +kernel
theorem dX8_init_56 : decode cX8_init 56 = .ok (.sipush 8192, 3) := by decide +kernel
theorem dX8_init_59 : decode cX8_init 59 = .ok (.newarray .int, 2) := by decide +kernel
theorem dX8_init_61 : decode cX8_init 61 = .ok (.putfield 34, 3) := by decide +kernel
theorem dX8_init_64 : decode cX8_init 64 = .ok (.return_, 1) := by decide +kernel
theorem dX9_init_0 : decode cX9_init 0 = .ok (.aload_n 0, 1) := by decide +kernel
theorem dX9_init_1 : decode cX9_init 1 = .ok (.invokespecial 1, 3) := by decide +kernel
theorem dX9_init_4 : decode cX9_init 4 = .ok (.aload_n 0, 1) := by decide +kernel
theorem dX9_init_5 : decode cX9_init 5 = .ok (.sipush 1400, 3) := by decide +kernel
theorem dX9_init_8 : decode cX9_init 8 = .ok (.newarray .byte, 2) := by decide +kernel
theorem dX9_init_10 : decode cX9_init 10 = .ok (.putfield 9, 3) := by decide +kernel
theorem dX9_init_13 : decode cX9_init 13 = .ok (.aload_n 0, 1) := by decide +kernel
theorem dX9_init_14 : decode cX9_init 14 = .ok (.new 13, 3) := by decide +kernel
theorem dX9_init_17 : decode cX9_init 17 = .ok (.dup, 1) := by decide +kernel
theorem dX9_init_18 : decode cX9_init 18 = .ok (.invokespecial 15, 3) := by decide +kernel
theorem dX9_init_21 : decode cX9_init 21 = .ok (.putfield 16, 3) := by decide +kernel
theorem dX9_init_24 : decode cX9_init 24 = .ok (.aload_n 0, 1) := by decide +kernel
theorem dX9_init_25 : decode cX9_init 25 = .ok (.new 20, 3) := by decide +kernel
theorem dX9_init_28 : decode cX9_init 28 = .ok (.dup, 1) := by decide +kernel
theorem dX9_init_29 : decode cX9_init 29 = .ok (.invokespecial 22, 3) := by decide +kernel
theorem dX9_init_32 : decode cX9_init 32 = .ok (.putfield 23, 3) := by decide +kernel
theorem dX9_init_35 : decode cX9_init 35 = .ok (.aload_n 0, 1) := by decide +kernel
theorem dX9_init_36 : decode cX9_init 36 = .ok (.iconst 3, 1) := by decide +kernel
theorem dX9_init_37 : decode cX9_init 37 = .ok (.anewarray 20, 3) := by decide +kernel
theorem dX9_init_40 : decode cX9_init 40 = .ok (.putfield 27, 3) := by decide +kernel
theorem dX9_init_43 : decode cX9_init 43 = .ok (.aload_n 0, 1) := by decide +kernel
theorem dX9_init_44 : decode cX9_init 44 = .ok (.iconst 4, 1) := by decide +kernel
theorem dX9_init_45 : decode cX9_init 45 = .ok (.anewarray 31, 3) := by decide +kernel
theorem dX9_init_48 : decode cX9_init 48 = .ok (.putfield 33, 3) := by decide +kernel
theorem dX9_init_51 : decode cX9_init 51 = .ok (.aload_n 0, 1) := by decide +kernel
theorem dX9_init_52 : decode cX9_init 52 = .ok (.new 37, 3) := by decide +kernel
theorem dX9_init_55 : decode cX9_init 55 = .ok (.dup, 1) := by decide +kernel
theorem dX9_init_56 : decode cX9_init 56 = .ok (.invokespecial 39, 3) := by decide +kernel
theorem dX9_init_59 : decode cX9_init 59 = .ok (.putfield 40, 3) := by decide +kernel
theorem dX9_init_62 : decode cX9_init 62 = .ok (.aload_n 0, 1) := by decide +kernel
theorem dX9_init_63 : decode cX9_init 63 = .ok (.new 44, 3) := by decide +kernel
theorem dX9_init_66 : decode cX9_init 66 = .ok (.dup, 1) := by decide +kernel
theorem dX9_init_67 : decode cX9_init 67 = .ok (.invokespecial 46, 3) := by decide +kernel
theorem dX9_init_70 : decode cX9_init 70 = .ok (.putfield 47, 3) := by decide +kernel
theorem dX9_init_73 : decode cX9_init 73 = .ok (.aload_n 0, 1) := by decide +kernel
theorem dX9_init_74 : decode cX9_init 74 = .ok (.new 51, 3) := by decide +kernel
theorem dX9_init_77 : decode cX9_init 77 = .ok (.dup, 1) := by decide +kernel
theorem dX9_init_78 : decode cX9_init 78 = .ok (.invokespecial 53, 3) := by decide +kernel
theorem dX9_init_81 : decode cX9_init 81 = .ok (.putfield 54, 3) := by decide +kernel
theorem dX9_init_84 : decode cX9_init 84 = .ok (.aload_n 0, 1) := by decide +kernel
theorem dX9_init_85 : decode cX9_init 85 = .ok (.bipush 16, 2) := by decide +kernel
theorem dX9_init_87 : decode cX9_init 87 = .ok (.newarray .int, 2) := by decide +kernel
theorem dX9_init_89 : decode cX9_init 89 = .ok (.putfield 58, 3) := by decide +kernel
theorem dX9_init_92 : decode cX9_init 92 = .ok (.iconst 0, 1) := by decide +kernel
theorem dX9_init_93 : decode cX9_init 93 = .ok (.istore_n 1, 1) := by decide +kernel
theorem dX9_init_94 : decode cX9_init 94 = .ok (.iload_n 1, 1) := by decide +kernel
theorem dX9_init_95 : decode cX9_init 95 = .ok (.iconst 4, 1) := by decide +kernel
theorem dX9_init_96 : decode cX9_init 96 = .ok (.if_icmp .ge 22, 3) := by decide +kernel
theorem dX9_init_99 : decode cX9_init 99 = .ok (.aload_n 0, 1) := by decide +kernel
theorem dX9_init_100 : decode cX9_init 100 = .ok (.getfield 33, 3) := by decide +kernel
theorem dX9_init_103 : decode cX9_init 103 = .ok (.iload_n 1, 1) := by decide +kernel
theorem dX9_init_104 : decode cX9_init 104 = .ok (.new 31, 3) := by decide +kernel
theorem dX9_init_107 : decode cX9_init 107 = .ok (.dup, 1) := by decide +kernel
theorem dX9_init_108 : decode cX9_init 108 = .ok (.invokespecial 62, 3) := by decide +kernel
theorem dX9_init_111 : decode cX9_init 111 = .ok (.aastore, 1) := by decide +kernel
theorem dX9_init_112 : decode cX9_init 112 = .ok (.iinc 1 1, 3) := by decide +kernel
theorem dX9_init_115 : decode cX9_init 115 = .ok (.goto (-21), 3) := by decide +kernel
theorem dX9_init_118 : decode cX9_init 118 = .ok (.return_, 1) := by decide +kernel
theorem dX9_feed_0 : decode cX9_feed 0 = .ok (.aload_n 0, 1) := by decide +kernel
theorem dX9_feed_1 : decode cX9_feed 1 = .ok (.getfield 63, 3) := by decide +kernel
theorem dX9_feed_4 : decode cX9_feed 4 = .ok (.bipush 20, 2) := by decide +kernel
theorem dX9_feed_6 : decode cX9_feed 6 = .ok (.iadd, 1) := by decide +kernel
theorem dX9_feed_7 : decode cX9_feed 7 = .ok (.sipush 1400, 3) := by decide +kernel
theorem dX9_feed_10 : decode cX9_feed 10 = .ok (.if_icmp .le 5, 3) := by decide +kernel
theorem dX9_feed_13 : decode cX9_feed 13 = .ok (.iconst (-1), 1) := by decide +kernel
theorem dX9_feed_14 : decode cX9_feed 14 = .ok (.ireturn, 1) := by decide +kernel
theorem dX9_feed_15 : decode cX9_feed 15 = .ok (.aload_n 0, 1) := by decide +kernel
theorem dX9_feed_16 : decode cX9_feed 16 = .ok (.iload_n 1, 1) := by decide +kernel
theorem dX9_feed_17 : decode cX9_feed 17 = .ok (.invokevirtual 67, 3) := by decide +kernel
theorem dX9_feed_20 : decode cX9_feed 20 = .ok (.aload_n 0, 1) := by decide +kernel
theorem dX9_feed_21 : decode cX9_feed 21 = .ok (.iload_n 2, 1) := by decide +kernel
theorem dX9_feed_22 : decode cX9_feed 22 = .ok (.invokevirtual 67, 3) := by decide +kernel
theorem dX9_feed_25 : decode cX9_feed 25 = .ok (.aload_n 0, 1) := by decide +kernel
theorem dX9_feed_26 : decode cX9_feed 26 = .ok (.iload_n 3, 1) := by decide +kernel
theorem dX9_feed_27 : decode cX9_feed 27 = .ok (.invokevirtual 67, 3) := by decide +kernel
theorem dX9_feed_30 : decode cX9_feed 30 = .ok (.aload_n 0, 1) := by decide +kernel
theorem dX9_feed_31 : decode cX9_feed 31 = .ok (.iload 4, 2) := by decide +kernel
theorem dX9_feed_33 : decode cX9_feed 33 = .ok (.invokevirtual 67, 3) := by decide +kernel
theorem dX9_feed_36 : decode cX9_feed 36 = .ok (.aload_n 0, 1) := by decide +kernel
theorem dX9_feed_37 : decode cX9_feed 37 = .ok (.iload 5, 2) := by decide +kernel
theorem dX9_feed_39 : decode cX9_feed 39 = .ok (.invokevirtual 67, 3) := by decide +kernel
theorem dX9_feed_42 : decode cX9_feed 42 = .ok (.aload_n 0, 1) := by decide +kernel
theorem dX9_feed_43 : decode cX9_feed 43 = .ok (.getfield 63, 3) := by decide +kernel
theorem dX9_feed_46 : decode cX9_feed 46 = .ok (.ireturn, 1) := by decide +kernel
theorem dX9_end_0 : decode cX9_end 0 = .ok (.iload_n 1, 1) := by decide +kernel
theorem dX9_end_1 : decode cX9_end 1 = .ok (.ifCond .lt 11, 3) := by decide +kernel
theorem dX9_end_4 : decode cX9_end 4 = .ok (.iload_n 1, 1) := by decide +kernel
theorem dX9_end_5 : decode cX9_end 5 = .ok (.aload_n 0, 1) := by decide +kernel
theorem dX9_end_6 : decode cX9_end 6 = .ok (.getfield 63, 3) := by decide +kernel
theorem dX9_end_9 : decode cX9_end 9 = .ok (.if_icmp .le 5, 3) := by decide +kernel
theorem dX9_end_12 : decode cX9_end 12 = .ok (.iconst (-1), 1) := by decide +kernel
theorem dX9_end_13 : decode cX9_end 13 = .ok (.ireturn, 1) := by decide +kernel
theorem dX9_end_14 : decode cX9_end 14 = .ok (.aload_n 0, 1) := by decide +kernel
theorem dX9_end_15 : decode cX9_end 15 = .ok (.iload_n 1, 1) := by decide +kernel
theorem dX9_end_16 : decode cX9_end 16 = .ok (.putfield 63, 3) := by decide +kernel
theorem dX9_end_19 : decode cX9_end 19 = .ok (.iload_n 1, 1) := by decide +kernel
theorem dX9_end_20 : decode cX9_end 20 = .ok (.ireturn, 1) := by decide +kernel
theorem dX9_town_0 : decode cX9_town 0 = .ok (.aload_n 0, 1) := by decide +kernel
theorem dX9_town_1 : decode cX9_town 1 = .ok (.getfield 16, 3) := by decide +kernel
theorem dX9_town_4 : decode cX9_town 4 = .ok (.aload_n 0, 1) := by decide +kernel
theorem dX9_town_5 : decode cX9_town 5 = .ok (.getfield 9, 3) := by decide +kernel
theorem dX9_town_8 : decode cX9_town 8 = .ok (.aload_n 0, 1) := by decide +kernel
theorem dX9_town_9 : decode cX9_town 9 = .ok (.getfield 63, 3) := by decide +kernel
theorem dX9_town_12 : decode cX9_town 12 = .ok (.invokevirtual 71, 3) := by decide +kernel
theorem dX9_town_15 : decode cX9_town 15 = .ok (.aload_n 0, 1) := by decide +kernel
theorem dX9_town_16 : decode cX9_town 16 = .ok (.iconst 0, 1) := by decide +kernel
theorem dX9_town_17 : decode cX9_town 17 = .ok (.putfield 63, 3) := by decide +kernel
theorem dX9_town_20 : decode cX9_town 20 = .ok (.aload_n 0, 1) := by decide +kernel
theorem dX9_town_21 : decode cX9_town 21 = .ok (.getfield 16, 3) := by decide +kernel
theorem dX9_town_24 : decode cX9_town 24 = .ok (.getfield 75, 3) := by decide +kernel
theorem dX9_town_27 : decode cX9_town 27 = .ok (.ifCond .eq 6, 3) := by decide +kernel
theorem dX9_town_30 : decode cX9_town 30 = .ok (.bipush (-4), 2) := by decide +kernel
theorem dX9_town_32 : decode cX9_town 32 = .ok (.ireturn, 1) := by decide +kernel
theorem dX9_town_33 : decode cX9_town 33 = .ok (.aload_n 0, 1) := by decide +kernel
theorem dX9_town_34 : decode cX9_town 34 = .ok (.getfield 23, 3) := by decide +kernel
theorem dX9_town_37 : decode cX9_town 37 = .ok (.aload_n 0, 1) := by decide +kernel
theorem dX9_town_38 : decode cX9_town 38 = .ok (.getfield 16, 3) := by decide +kernel
theorem dX9_town_41 : decode cX9_town 41 = .ok (.getfield 78, 3) := by decide +kernel
theorem dX9_town_44 : decode cX9_town 44 = .ok (.aload_n 0, 1) := by decide +kernel
theorem dX9_town_45 : decode cX9_town 45 = .ok (.getfield 16, 3) := by decide +kernel
theorem dX9_town_48 : decode cX9_town 48 = .ok (.getfield 82, 3) := by decide +kernel
theorem dX9_town_51 : decode cX9_town 51 = .ok (.invokevirtual 86, 3) := by decide +kernel
theorem dX9_town_54 : decode cX9_town 54 = .ok (.aload_n 0, 1) := by decide +kernel
theorem dX9_town_55 : decode cX9_town 55 = .ok (.invokevirtual 90, 3) := by decide +kernel
theorem dX9_town_58 : decode cX9_town 58 = .ok (.aload_n 0, 1) := by decide +kernel
theorem dX9_town_59 : decode cX9_town 59 = .ok (.getfield 23, 3) := by decide +kernel
theorem dX9_town_62 : decode cX9_town 62 = .ok (.getfield 93, 3) := by decide +kernel
theorem dX9_town_65 : decode cX9_town 65 = .ok (.getfield 94, 3) := by decide +kernel
theorem dX9_town_68 : decode cX9_town 68 = .ok (.ireturn, 1) := by decide +kernel
theorem dX9_fault_0 : decode cX9_fault 0 = .ok (.iload_n 1, 1) := by decide +kernel
theorem dX9_fault_1 : decode cX9_fault 1 = .ok (.ifCond .ne 11, 3) := by decide +kernel
theorem dX9_fault_4 : decode cX9_fault 4 = .ok (.aload_n 0, 1) := by decide +kernel
theorem dX9_fault_5 : decode cX9_fault 5 = .ok (.getfield 16, 3) := by decide +kernel
theorem dX9_fault_8 : decode cX9_fault 8 = .ok (.getfield 75, 3) := by decide +kernel
theorem dX9_fault_11 : decode cX9_fault 11 = .ok (.ireturn, 1) := by decide +kernel
theorem dX9_fault_12 : decode cX9_fault 12 = .ok (.iload_n 1, 1) := by decide +kernel
theorem dX9_fault_13 : decode cX9_fault 13 = .ok (.iconst 1, 1) := by decide +kernel
theorem dX9_fault_14 : decode cX9_fault 14 = .ok (.if_icmp .ne 13, 3) := by decide +kernel
theorem dX9_fault_17 : decode cX9_fault 17 = .ok (.aload_n 0, 1) := by decide +kernel
theorem dX9_fault_18 : decode cX9_fault 18 = .ok (.getfield 16, 3) := by decide +kernel
theorem dX9_fault_21 : decode cX9_fault 21 = .ok (.getfield 99, 3) := by decide +kernel
theorem dX9_fault_24 : decode cX9_fault 24 = .ok (.goto 4, 3) := by decide +kernel
theorem dX9_fault_27 : decode cX9_fault 27 = .ok (.iconst (-1), 1) := by decide +kernel
theorem dX9_fault_28 : decode cX9_fault 28 = .ok (.ireturn, 1) := by decide +kernel
theorem dX9_days_0 : decode cX9_days 0 = .ok (.iload_n 1, 1) := by decide +kernel
theorem dX9_days_1 : decode cX9_days 1 = .ok (.ifCond .lt 24, 3) := by decide +kernel
theorem dX9_days_4 : decode cX9_days 4 = .ok (.iload_n 1, 1) := by decide +kernel
theorem dX9_days_5 : decode cX9_days 5 = .ok (.bipush 60, 2) := by decide +kernel
theorem dX9_days_7 : decode cX9_days 7 = .ok (.if_icmp .gt 18, 3) := by decide +kernel
theorem dX9_days_10 : decode cX9_days 10 = .ok (.aload_n 0, 1) := by decide +kernel
theorem dX9_days_11 : decode cX9_days 11 = .ok (.getfield 23, 3) := by decide +kernel
theorem dX9_days_14 : decode cX9_days 14 = .ok (.getfield 102, 3) := by decide +kernel
theorem dX9_days_17 : decode cX9_days 17 = .ok (.iload_n 1, 1) := by decide +kernel
theorem dX9_days_18 : decode cX9_days 18 = .ok (.iadd, 1) := by decide +kernel
theorem dX9_days_19 : decode cX9_days 19 = .ok (.sipush 399, 3) := by decide +kernel
theorem dX9_days_22 : decode cX9_days 22 = .ok (.if_icmp .le 6, 3) := by decide +kernel
theorem dX9_days_25 : decode cX9_days 25 = .ok (.bipush (-2), 2) := by decide +kernel
theorem dX9_days_27 : decode cX9_days 27 = .ok (.ireturn, 1) := by decide +kernel
theorem dX9_days_28 : decode cX9_days 28 = .ok (.aload_n 0, 1) := by decide +kernel
theorem dX9_days_29 : decode cX9_days 29 = .ok (.getfield 23, 3) := by decide +kernel
theorem dX9_days_32 : decode cX9_days 32 = .ok (.dup, 1) := by decide +kernel
theorem dX9_days_33 : decode cX9_days 33 = .ok (.getfield 102, 3) := by decide +kernel
theorem dX9_days_36 : decode cX9_days 36 = .ok (.iload_n 1, 1) := by decide +kernel
theorem dX9_days_37 : decode cX9_days 37 = .ok (.iadd, 1) := by decide +kernel
theorem dX9_days_38 : decode cX9_days 38 = .ok (.putfield 102, 3) := by decide +kernel
theorem dX9_days_41 : decode cX9_days 41 = .ok (.aload_n 0, 1) := by decide +kernel
theorem dX9_days_42 : decode cX9_days 42 = .ok (.invokevirtual 90, 3) := by decide +kernel
theorem dX9_days_45 : decode cX9_days 45 = .ok (.aload_n 0, 1) := by decide +kernel
theorem dX9_days_46 : decode cX9_days 46 = .ok (.getfield 23, 3) := by decide +kernel
theorem dX9_days_49 : decode cX9_days 49 = .ok (.getfield 102, 3) := by decide +kernel
theorem dX9_days_52 : decode cX9_days 52 = .ok (.ireturn, 1) := by decide +kernel
theorem dX9_bars_0 : decode cX9_bars 0 = .ok (.aload_n 0, 1) := by decide +kernel
theorem dX9_bars_1 : decode cX9_bars 1 = .ok (.iload_n 1, 1) := by decide +kernel
theorem dX9_bars_2 : decode cX9_bars 2 = .ok (.iload_n 2, 1) := by decide +kernel
theorem dX9_bars_3 : decode cX9_bars 3 = .ok (.iload_n 3, 1) := by decide +kernel
theorem dX9_bars_4 : decode cX9_bars 4 = .ok (.invokevirtual 105, 3) := by decide +kernel
theorem dX9_bars_7 : decode cX9_bars 7 = .ok (.ifCond .eq 16, 3) := by decide +kernel
theorem dX9_bars_10 : decode cX9_bars 10 = .ok (.aload_n 0, 1) := by decide +kernel
theorem dX9_bars_11 : decode cX9_bars 11 = .ok (.getfield 23, 3) := by decide +kernel
theorem dX9_bars_14 : decode cX9_bars 14 = .ok (.iload_n 1, 1) := by decide +kernel
theorem dX9_bars_15 : decode cX9_bars 15 = .ok (.iload_n 2, 1) := by decide +kernel
theorem dX9_bars_16 : decode cX9_bars 16 = .ok (.iload_n 3, 1) := by decide +kernel
theorem dX9_bars_17 : decode cX9_bars 17 = .ok (.invokevirtual 109, 3) := by decide +kernel
theorem dX9_bars_20 : decode cX9_bars 20 = .ok (.goto 5, 3) := by decide +kernel
theorem dX9_bars_23 : decode cX9_bars 23 = .ok (.bipush (-2), 2) := by decide +kernel
theorem dX9_bars_25 : decode cX9_bars 25 = .ok (.ireturn, 1) := by decide +kernel
theorem dX9_does_0 : decode cX9_does 0 = .ok (.aload_n 0, 1) := by decide +kernel
theorem dX9_does_1 : decode cX9_does 1 = .ok (.iload_n 1, 1) := by decide +kernel
theorem dX9_does_2 : decode cX9_does 2 = .ok (.iload_n 2, 1) := by decide +kernel
theorem dX9_does_3 : decode cX9_does 3 = .ok (.iload_n 3, 1) := by decide +kernel
theorem dX9_does_4 : decode cX9_does 4 = .ok (.invokevirtual 105, 3) := by decide +kernel
theorem dX9_does_7 : decode cX9_does 7 = .ok (.ifCond .ne 6, 3) := by decide +kernel
theorem dX9_does_10 : decode cX9_does 10 = .ok (.bipush (-2), 2) := by decide +kernel
theorem dX9_does_12 : decode cX9_does 12 = .ok (.ireturn, 1) := by decide +kernel
theorem dX9_does_13 : decode cX9_does 13 = .ok (.aload_n 0, 1) := by decide +kernel
theorem dX9_does_14 : decode cX9_does 14 = .ok (.getfield 23, 3) := by decide +kernel
theorem dX9_does_17 : decode cX9_does 17 = .ok (.iload_n 1, 1) := by decide +kernel
theorem dX9_does_18 : decode cX9_does 18 = .ok (.iload_n 2, 1) := by decide +kernel
theorem dX9_does_19 : decode cX9_does 19 = .ok (.iload_n 3, 1) := by decide +kernel
theorem dX9_does_20 : decode cX9_does 20 = .ok (.invokevirtual 109, 3) := by decide +kernel
theorem dX9_does_23 : decode cX9_does 23 = .ok (.ifCond .eq 6, 3) := by decide +kernel
theorem dX9_does_26 : decode cX9_does 26 = .ok (.bipush (-5), 2) := by decide +kernel
theorem dX9_does_28 : decode cX9_does 28 = .ok (.ireturn, 1) := by decide +kernel
theorem dX9_does_29 : decode cX9_does 29 = .ok (.aload_n 0, 1) := by decide +kernel
theorem dX9_does_30 : decode cX9_does 30 = .ok (.getfield 23, 3) := by decide +kernel
theorem dX9_does_33 : decode cX9_does 33 = .ok (.getfield 113, 3) := by decide +kernel
theorem dX9_does_36 : decode cX9_does 36 = .ok (.invokevirtual 117, 3) := by decide +kernel
theorem dX9_does_39 : decode cX9_does 39 = .ok (.ifCond .eq 6, 3) := by decide +kernel
theorem dX9_does_42 : decode cX9_does 42 = .ok (.bipush (-3), 2) := by decide +kernel
theorem dX9_does_44 : decode cX9_does 44 = .ok (.ireturn, 1) := by decide +kernel
theorem dX9_does_45 : decode cX9_does 45 = .ok (.aload_n 0, 1) := by decide +kernel
theorem dX9_does_46 : decode cX9_does 46 = .ok (.invokevirtual 90, 3) := by decide +kernel
theorem dX9_does_49 : decode cX9_does 49 = .ok (.aload_n 0, 1) := by decide +kernel
theorem dX9_does_50 : decode cX9_does 50 = .ok (.getfield 23, 3) := by decide +kernel
theorem dX9_does_53 : decode cX9_does 53 = .ok (.iload_n 1, 1) := by decide +kernel
theorem dX9_does_54 : decode cX9_does 54 = .ok (.iload_n 2, 1) := by decide +kernel
theorem dX9_does_55 : decode cX9_does 55 = .ok (.iload_n 3, 1) := by decide +kernel
theorem dX9_does_56 : decode cX9_does 56 = .ok (.invokevirtual 123, 3) := by decide +kernel
theorem dX9_does_59 : decode cX9_does 59 = .ok (.ireturn, 1) := by decide +kernel
theorem dX9_meet_0 : decode cX9_meet 0 = .ok (.aload_n 0, 1) := by decide +kernel
theorem dX9_meet_1 : decode cX9_meet 1 = .ok (.getfield 23, 3) := by decide +kernel
theorem dX9_meet_4 : decode cX9_meet 4 = .ok (.getfield 93, 3) := by decide +kernel
theorem dX9_meet_7 : decode cX9_meet 7 = .ok (.iload_n 1, 1) := by decide +kernel
theorem dX9_meet_8 : decode cX9_meet 8 = .ok (.iload_n 2, 1) := by decide +kernel
theorem dX9_meet_9 : decode cX9_meet 9 = .ok (.invokevirtual 126, 3) := by decide +kernel
theorem dX9_meet_12 : decode cX9_meet 12 = .ok (.ifCond .ne 6, 3) := by decide +kernel
theorem dX9_meet_15 : decode cX9_meet 15 = .ok (.bipush (-2), 2) := by decide +kernel
theorem dX9_meet_17 : decode cX9_meet 17 = .ok (.ireturn, 1) := by decide +kernel
theorem dX9_meet_18 : decode cX9_meet 18 = .ok (.aload_n 0, 1) := by decide +kernel
theorem dX9_meet_19 : decode cX9_meet 19 = .ok (.getfield 23, 3) := by decide +kernel
theorem dX9_meet_22 : decode cX9_meet 22 = .ok (.getfield 113, 3) := by decide +kernel
theorem dX9_meet_25 : decode cX9_meet 25 = .ok (.invokevirtual 117, 3) := by decide +kernel
theorem dX9_meet_28 : decode cX9_meet 28 = .ok (.ifCond .eq 6, 3) := by decide +kernel
theorem dX9_meet_31 : decode cX9_meet 31 = .ok (.bipush (-3), 2) := by decide +kernel
theorem dX9_meet_33 : decode cX9_meet 33 = .ok (.ireturn, 1) := by decide +kernel
theorem dX9_meet_34 : decode cX9_meet 34 = .ok (.aload_n 0, 1) := by decide +kernel
theorem dX9_meet_35 : decode cX9_meet 35 = .ok (.invokevirtual 90, 3) := by decide +kernel
theorem dX9_meet_38 : decode cX9_meet 38 = .ok (.aload_n 0, 1) := by decide +kernel
theorem dX9_meet_39 : decode cX9_meet 39 = .ok (.getfield 23, 3) := by decide +kernel
theorem dX9_meet_42 : decode cX9_meet 42 = .ok (.iload_n 1, 1) := by decide +kernel
theorem dX9_meet_43 : decode cX9_meet 43 = .ok (.iload_n 2, 1) := by decide +kernel
theorem dX9_meet_44 : decode cX9_meet 44 = .ok (.invokevirtual 130, 3) := by decide +kernel
theorem dX9_meet_47 : decode cX9_meet 47 = .ok (.ireturn, 1) := by decide +kernel
theorem dX9_done_0 : decode cX9_done 0 = .ok (.iload_n 1, 1) := by decide +kernel
theorem dX9_done_1 : decode cX9_done 1 = .ok (.invokestatic 134, 3) := by decide +kernel
theorem dX9_done_4 : decode cX9_done 4 = .ok (.ifCond .ne 6, 3) := by decide +kernel
theorem dX9_done_7 : decode cX9_done 7 = .ok (.bipush (-2), 2) := by decide +kernel
theorem dX9_done_9 : decode cX9_done 9 = .ok (.ireturn, 1) := by decide +kernel
theorem dX9_done_10 : decode cX9_done 10 = .ok (.aload_n 0, 1) := by decide +kernel
theorem dX9_done_11 : decode cX9_done 11 = .ok (.getfield 33, 3) := by decide +kernel
theorem dX9_done_14 : decode cX9_done 14 = .ok (.iload_n 1, 1) := by decide +kernel
theorem dX9_done_15 : decode cX9_done 15 = .ok (.aaload, 1) := by decide +kernel
theorem dX9_done_16 : decode cX9_done 16 = .ok (.astore_n 2, 1) := by decide +kernel
theorem dX9_done_17 : decode cX9_done 17 = .ok (.aload_n 2, 1) := by decide +kernel
theorem dX9_done_18 : decode cX9_done 18 = .ok (.getfield 138, 3) := by decide +kernel
theorem dX9_done_21 : decode cX9_done 21 = .ok (.ifCond .ne 6, 3) := by decide +kernel
theorem dX9_done_24 : decode cX9_done 24 = .ok (.bipush (-6), 2) := by decide +kernel
theorem dX9_done_26 : decode cX9_done 26 = .ok (.ireturn, 1) := by decide +kernel
theorem dX9_done_27 : decode cX9_done 27 = .ok (.iconst 0, 1) := by decide +kernel
theorem dX9_done_28 : decode cX9_done 28 = .ok (.istore_n 3, 1) := by decide +kernel
theorem dX9_done_29 : decode cX9_done 29 = .ok (.iconst 0, 1) := by decide +kernel
theorem dX9_done_30 : decode cX9_done 30 = .ok (.istore 4, 2) := by decide +kernel
theorem dX9_done_32 : decode cX9_done 32 = .ok (.iload 4, 2) := by decide +kernel
theorem dX9_done_34 : decode cX9_done 34 = .ok (.iconst 2, 1) := by decide +kernel
theorem dX9_done_35 : decode cX9_done 35 = .ok (.iadd, 1) := by decide +kernel
theorem dX9_done_36 : decode cX9_done 36 = .ok (.aload_n 2, 1) := by decide +kernel
theorem dX9_done_37 : decode cX9_done 37 = .ok (.getfield 142, 3) := by decide +kernel
theorem dX9_done_40 : decode cX9_done 40 = .ok (.if_icmp .ge 74, 3) := by decide +kernel
theorem dX9_done_43 : decode cX9_done 43 = .ok (.aload_n 2, 1) := by decide +kernel
theorem dX9_done_44 : decode cX9_done 44 = .ok (.iload 4, 2) := by decide +kernel
theorem dX9_done_46 : decode cX9_done 46 = .ok (.invokevirtual 145, 3) := by decide +kernel
theorem dX9_done_49 : decode cX9_done 49 = .ok (.istore 5, 2) := by decide +kernel
theorem dX9_done_51 : decode cX9_done 51 = .ok (.aload_n 2, 1) := by decide +kernel
theorem dX9_done_52 : decode cX9_done 52 = .ok (.iload 4, 2) := by decide +kernel
theorem dX9_done_54 : decode cX9_done 54 = .ok (.iconst 1, 1) := by decide +kernel
theorem dX9_done_55 : decode cX9_done 55 = .ok (.iadd, 1) := by decide +kernel
theorem dX9_done_56 : decode cX9_done 56 = .ok (.invokevirtual 145, 3) := by decide +kernel
theorem dX9_done_59 : decode cX9_done 59 = .ok (.istore 6, 2) := by decide +kernel
theorem dX9_done_61 : decode cX9_done 61 = .ok (.aload_n 2, 1) := by decide +kernel
theorem dX9_done_62 : decode cX9_done 62 = .ok (.iload 4, 2) := by decide +kernel
theorem dX9_done_64 : decode cX9_done 64 = .ok (.iconst 2, 1) := by decide +kernel
theorem dX9_done_65 : decode cX9_done 65 = .ok (.iadd, 1) := by decide +kernel
theorem dX9_done_66 : decode cX9_done 66 = .ok (.invokevirtual 145, 3) := by decide +kernel
theorem dX9_done_69 : decode cX9_done 69 = .ok (.istore 7, 2) := by decide +kernel
theorem dX9_done_71 : decode cX9_done 71 = .ok (.iload 7, 2) := by decide +kernel
theorem dX9_done_73 : decode cX9_done 73 = .ok (.iconst 4, 1) := by decide +kernel
theorem dX9_done_74 : decode cX9_done 74 = .ok (.if_icmp .ne 14, 3) := by decide +kernel
theorem dX9_done_77 : decode cX9_done 77 = .ok (.aload_n 0, 1) := by decide +kernel
theorem dX9_done_78 : decode cX9_done 78 = .ok (.iload 5, 2) := by decide +kernel
theorem dX9_done_80 : decode cX9_done 80 = .ok (.iload 6, 2) := by decide +kernel
theorem dX9_done_82 : decode cX9_done 82 = .ok (.invokevirtual 149, 3) := by decide +kernel
theorem dX9_done_85 : decode cX9_done 85 = .ok (.goto 13, 3) := by decide +kernel
theorem dX9_done_88 : decode cX9_done 88 = .ok (.aload_n 0, 1) := by decide +kernel
theorem dX9_done_89 : decode cX9_done 89 = .ok (.iload 5, 2) := by decide +kernel
theorem dX9_done_91 : decode cX9_done 91 = .ok (.iload 6, 2) := by decide +kernel
theorem dX9_done_93 : decode cX9_done 93 = .ok (.iload 7, 2) := by decide +kernel
theorem dX9_done_95 : decode cX9_done 95 = .ok (.invokevirtual 152, 3) := by decide +kernel
theorem dX9_done_98 : decode cX9_done 98 = .ok (.istore 8, 2) := by decide +kernel
theorem dX9_done_100 : decode cX9_done 100 = .ok (.iload 8, 2) := by decide +kernel
theorem dX9_done_102 : decode cX9_done 102 = .ok (.ifCond .lt 6, 3) := by decide +kernel
theorem dX9_done_105 : decode cX9_done 105 = .ok (.iinc 3 1, 3) := by decide +kernel
theorem dX9_done_108 : decode cX9_done 108 = .ok (.iinc 4 3, 3) := by decide +kernel
theorem dX9_done_111 : decode cX9_done 111 = .ok (.goto (-79), 3) := by decide +kernel
theorem dX9_done_114 : decode cX9_done 114 = .ok (.iload_n 3, 1) := by decide +kernel
theorem dX9_done_115 : decode cX9_done 115 = .ok (.ireturn, 1) := by decide +kernel
theorem dX9_known_0 : decode cX9_known 0 = .ok (.aload_n 0, 1) := by decide +kernel
theorem dX9_known_1 : decode cX9_known 1 = .ok (.getfield 23, 3) := by decide +kernel
theorem dX9_known_4 : decode cX9_known 4 = .ok (.getfield 93, 3) := by decide +kernel
theorem dX9_known_7 : decode cX9_known 7 = .ok (.iload_n 1, 1) := by decide +kernel
theorem dX9_known_8 : decode cX9_known 8 = .ok (.iload_n 2, 1) := by decide +kernel
theorem dX9_known_9 : decode cX9_known 9 = .ok (.invokevirtual 126, 3) := by decide +kernel
theorem dX9_known_12 : decode cX9_known 12 = .ok (.ifCond .eq 15, 3) := by decide +kernel
theorem dX9_known_15 : decode cX9_known 15 = .ok (.aload_n 0, 1) := by decide +kernel
theorem dX9_known_16 : decode cX9_known 16 = .ok (.getfield 23, 3) := by decide +kernel
theorem dX9_known_19 : decode cX9_known 19 = .ok (.iload_n 1, 1) := by decide +kernel
theorem dX9_known_20 : decode cX9_known 20 = .ok (.iload_n 2, 1) := by decide +kernel
theorem dX9_known_21 : decode cX9_known 21 = .ok (.invokevirtual 155, 3) := by decide +kernel
theorem dX9_known_24 : decode cX9_known 24 = .ok (.goto 5, 3) := by decide +kernel
theorem dX9_known_27 : decode cX9_known 27 = .ok (.bipush (-2), 2) := by decide +kernel
theorem dX9_known_29 : decode cX9_known 29 = .ok (.ireturn, 1) := by decide +kernel
theorem dX9_debts_0 : decode cX9_debts 0 = .ok (.aload_n 0, 1) := by decide +kernel
theorem dX9_debts_1 : decode cX9_debts 1 = .ok (.getfield 23, 3) := by decide +kernel
theorem dX9_debts_4 : decode cX9_debts 4 = .ok (.getfield 93, 3) := by decide +kernel
theorem dX9_debts_7 : decode cX9_debts 7 = .ok (.iload_n 1, 1) := by decide +kernel
theorem dX9_debts_8 : decode cX9_debts 8 = .ok (.invokevirtual 158, 3) := by decide +kernel
theorem dX9_debts_11 : decode cX9_debts 11 = .ok (.ifCond .eq 18, 3) := by decide +kernel
theorem dX9_debts_14 : decode cX9_debts 14 = .ok (.aload_n 0, 1) := by decide +kernel
theorem dX9_debts_15 : decode cX9_debts 15 = .ok (.getfield 23, 3) := by decide +kernel
theorem dX9_debts_18 : decode cX9_debts 18 = .ok (.getfield 161, 3) := by decide +kernel
theorem dX9_debts_21 : decode cX9_debts 21 = .ok (.getfield 164, 3) := by decide +kernel
theorem dX9_debts_24 : decode cX9_debts 24 = .ok (.iload_n 1, 1) := by decide +kernel
theorem dX9_debts_25 : decode cX9_debts 25 = .ok (.iaload, 1) := by decide +kernel
theorem dX9_debts_26 : decode cX9_debts 26 = .ok (.goto 5, 3) := by decide +kernel
theorem dX9_debts_29 : decode cX9_debts 29 = .ok (.bipush (-2), 2) := by decide +kernel
theorem dX9_debts_31 : decode cX9_debts 31 = .ok (.ireturn, 1) := by decide +kernel
theorem dX9_debt_0 : decode cX9_debt 0 = .ok (.aload_n 0, 1) := by decide +kernel
theorem dX9_debt_1 : decode cX9_debt 1 = .ok (.getfield 23, 3) := by decide +kernel
theorem dX9_debt_4 : decode cX9_debt 4 = .ok (.getfield 93, 3) := by decide +kernel
theorem dX9_debt_7 : decode cX9_debt 7 = .ok (.iload_n 1, 1) := by decide +kernel
theorem dX9_debt_8 : decode cX9_debt 8 = .ok (.invokevirtual 158, 3) := by decide +kernel
theorem dX9_debt_11 : decode cX9_debt 11 = .ok (.ifCond .ne 5, 3) := by decide +kernel
theorem dX9_debt_14 : decode cX9_debt 14 = .ok (.iconst (-1), 1) := by decide +kernel
theorem dX9_debt_15 : decode cX9_debt 15 = .ok (.ireturn, 1) := by decide +kernel
theorem dX9_debt_16 : decode cX9_debt 16 = .ok (.aload_n 0, 1) := by decide +kernel
theorem dX9_debt_17 : decode cX9_debt 17 = .ok (.getfield 23, 3) := by decide +kernel
theorem dX9_debt_20 : decode cX9_debt 20 = .ok (.getfield 161, 3) := by decide +kernel
theorem dX9_debt_23 : decode cX9_debt 23 = .ok (.iload_n 1, 1) := by decide +kernel
theorem dX9_debt_24 : decode cX9_debt 24 = .ok (.iload_n 2, 1) := by decide +kernel
theorem dX9_debt_25 : decode cX9_debt 25 = .ok (.invokevirtual 167, 3) := by decide +kernel
theorem dX9_debt_28 : decode cX9_debt 28 = .ok (.istore 4, 2) := by decide +kernel
theorem dX9_debt_30 : decode cX9_debt 30 = .ok (.iload 4, 2) := by decide +kernel
theorem dX9_debt_32 : decode cX9_debt 32 = .ok (.ifCond .ge 5, 3) := by decide +kernel
theorem dX9_debt_35 : decode cX9_debt 35 = .ok (.iconst (-1), 1) := by decide +kernel
theorem dX9_debt_36 : decode cX9_debt 36 = .ok (.ireturn, 1) := by decide +kernel
theorem dX9_debt_37 : decode cX9_debt 37 = .ok (.iload_n 3, 1) := by decide +kernel
theorem dX9_debt_38 : decode cX9_debt 38 = .ok (.tableswitch 86 0 3 #[30, 44, 58, 72], 30) := by decide +kernel
theorem dX9_debt_68 : decode cX9_debt 68 = .ok (.aload_n 0, 1) := by decide +kernel
theorem dX9_debt_69 : decode cX9_debt 69 = .ok (.getfield 23, 3) := by decide +kernel
theorem dX9_debt_72 : decode cX9_debt 72 = .ok (.getfield 161, 3) := by decide +kernel
theorem dX9_debt_75 : decode cX9_debt 75 = .ok (.getfield 170, 3) := by decide +kernel
theorem dX9_debt_78 : decode cX9_debt 78 = .ok (.iload 4, 2) := by decide +kernel
theorem dX9_debt_80 : decode cX9_debt 80 = .ok (.iaload, 1) := by decide +kernel
theorem dX9_debt_81 : decode cX9_debt 81 = .ok (.ireturn, 1) := by decide +kernel
theorem dX9_debt_82 : decode cX9_debt 82 = .ok (.aload_n 0, 1) := by decide +kernel
theorem dX9_debt_83 : decode cX9_debt 83 = .ok (.getfield 23, 3) := by decide +kernel
theorem dX9_debt_86 : decode cX9_debt 86 = .ok (.getfield 161, 3) := by decide +kernel
theorem dX9_debt_89 : decode cX9_debt 89 = .ok (.getfield 173, 3) := by decide +kernel
theorem dX9_debt_92 : decode cX9_debt 92 = .ok (.iload 4, 2) := by decide +kernel
theorem dX9_debt_94 : decode cX9_debt 94 = .ok (.iaload, 1) := by decide +kernel
theorem dX9_debt_95 : decode cX9_debt 95 = .ok (.ireturn, 1) := by decide +kernel
theorem dX9_debt_96 : decode cX9_debt 96 = .ok (.aload_n 0, 1) := by decide +kernel
theorem dX9_debt_97 : decode cX9_debt 97 = .ok (.getfield 23, 3) := by decide +kernel
theorem dX9_debt_100 : decode cX9_debt 100 = .ok (.getfield 161, 3) := by decide +kernel
theorem dX9_debt_103 : decode cX9_debt 103 = .ok (.getfield 176, 3) := by decide +kernel
theorem dX9_debt_106 : decode cX9_debt 106 = .ok (.iload 4, 2) := by decide +kernel
theorem dX9_debt_108 : decode cX9_debt 108 = .ok (.iaload, 1) := by decide +kernel
theorem dX9_debt_109 : decode cX9_debt 109 = .ok (.ireturn, 1) := by decide +kernel
theorem dX9_debt_110 : decode cX9_debt 110 = .ok (.aload_n 0, 1) := by decide +kernel
theorem dX9_debt_111 : decode cX9_debt 111 = .ok (.getfield 23, 3) := by decide +kernel
theorem dX9_debt_114 : decode cX9_debt 114 = .ok (.getfield 161, 3) := by decide +kernel
theorem dX9_debt_117 : decode cX9_debt 117 = .ok (.getfield 179, 3) := by decide +kernel
theorem dX9_debt_120 : decode cX9_debt 120 = .ok (.iload 4, 2) := by decide +kernel
theorem dX9_debt_122 : decode cX9_debt 122 = .ok (.iaload, 1) := by decide +kernel
theorem dX9_debt_123 : decode cX9_debt 123 = .ok (.ireturn, 1) := by decide +kernel
theorem dX9_debt_124 : decode cX9_debt 124 = .ok (.iconst (-1), 1) := by decide +kernel
theorem dX9_debt_125 : decode cX9_debt 125 = .ok (.ireturn, 1) := by decide +kernel
theorem dX9_slights_0 : decode cX9_slights 0 = .ok (.aload_n 0, 1) := by decide +kernel
theorem dX9_slights_1 : decode cX9_slights 1 = .ok (.getfield 23, 3) := by decide +kernel
theorem dX9_slights_4 : decode cX9_slights 4 = .ok (.getfield 93, 3) := by decide +kernel
theorem dX9_slights_7 : decode cX9_slights 7 = .ok (.iload_n 1, 1) := by decide +kernel
theorem dX9_slights_8 : decode cX9_slights 8 = .ok (.invokevirtual 158, 3) := by decide +kernel
theorem dX9_slights_11 : decode cX9_slights 11 = .ok (.ifCond .eq 24, 3) := by decide +kernel
theorem dX9_slights_14 : decode cX9_slights 14 = .ok (.aload_n 0, 1) := by decide +kernel
theorem dX9_slights_15 : decode cX9_slights 15 = .ok (.getfield 23, 3) := by decide +kernel
theorem dX9_slights_18 : decode cX9_slights 18 = .ok (.getfield 161, 3) := by decide +kernel
theorem dX9_slights_21 : decode cX9_slights 21 = .ok (.iload_n 1, 1) := by decide +kernel
theorem dX9_slights_22 : decode cX9_slights 22 = .ok (.aload_n 0, 1) := by decide +kernel
theorem dX9_slights_23 : decode cX9_slights 23 = .ok (.getfield 23, 3) := by decide +kernel
theorem dX9_slights_26 : decode cX9_slights 26 = .ok (.getfield 102, 3) := by decide +kernel
theorem dX9_slights_29 : decode cX9_slights 29 = .ok (.invokevirtual 182, 3) := by decide +kernel
theorem dX9_slights_32 : decode cX9_slights 32 = .ok (.goto 5, 3) := by decide +kernel
theorem dX9_slights_35 : decode cX9_slights 35 = .ok (.bipush (-2), 2) := by decide +kernel
theorem dX9_slights_37 : decode cX9_slights 37 = .ok (.ireturn, 1) := by decide +kernel
theorem dX9_first_0 : decode cX9_first 0 = .ok (.iconst 0, 1) := by decide +kernel
theorem dX9_first_1 : decode cX9_first 1 = .ok (.istore_n 1, 1) := by decide +kernel
theorem dX9_first_2 : decode cX9_first 2 = .ok (.iconst (-1), 1) := by decide +kernel
theorem dX9_first_3 : decode cX9_first 3 = .ok (.istore_n 2, 1) := by decide +kernel
theorem dX9_first_4 : decode cX9_first 4 = .ok (.iconst 0, 1) := by decide +kernel
theorem dX9_first_5 : decode cX9_first 5 = .ok (.istore_n 3, 1) := by decide +kernel
theorem dX9_first_6 : decode cX9_first 6 = .ok (.iload_n 3, 1) := by decide +kernel
theorem dX9_first_7 : decode cX9_first 7 = .ok (.aload_n 0, 1) := by decide +kernel
theorem dX9_first_8 : decode cX9_first 8 = .ok (.getfield 23, 3) := by decide +kernel
theorem dX9_first_11 : decode cX9_first 11 = .ok (.getfield 93, 3) := by decide +kernel
theorem dX9_first_14 : decode cX9_first 14 = .ok (.getfield 94, 3) := by decide +kernel
theorem dX9_first_17 : decode cX9_first 17 = .ok (.if_icmp .ge 89, 3) := by decide +kernel
theorem dX9_first_20 : decode cX9_first 20 = .ok (.aload_n 0, 1) := by decide +kernel
theorem dX9_first_21 : decode cX9_first 21 = .ok (.getfield 23, 3) := by decide +kernel
theorem dX9_first_24 : decode cX9_first 24 = .ok (.getfield 161, 3) := by decide +kernel
theorem dX9_first_27 : decode cX9_first 27 = .ok (.iload_n 3, 1) := by decide +kernel
theorem dX9_first_28 : decode cX9_first 28 = .ok (.aload_n 0, 1) := by decide +kernel
theorem dX9_first_29 : decode cX9_first 29 = .ok (.getfield 23, 3) := by decide +kernel
theorem dX9_first_32 : decode cX9_first 32 = .ok (.getfield 102, 3) := by decide +kernel
theorem dX9_first_35 : decode cX9_first 35 = .ok (.invokevirtual 182, 3) := by decide +kernel
theorem dX9_first_38 : decode cX9_first 38 = .ok (.istore 4, 2) := by decide +kernel
theorem dX9_first_40 : decode cX9_first 40 = .ok (.iload_n 2, 1) := by decide +kernel
theorem dX9_first_41 : decode cX9_first 41 = .ok (.ifCond .lt 40, 3) := by decide +kernel
theorem dX9_first_44 : decode cX9_first 44 = .ok (.iload 4, 2) := by decide +kernel
theorem dX9_first_46 : decode cX9_first 46 = .ok (.iload_n 1, 1) := by decide +kernel
theorem dX9_first_47 : decode cX9_first 47 = .ok (.if_icmp .ne 34, 3) := by decide +kernel
theorem dX9_first_50 : decode cX9_first 50 = .ok (.aload_n 0, 1) := by decide +kernel
theorem dX9_first_51 : decode cX9_first 51 = .ok (.getfield 23, 3) := by decide +kernel
theorem dX9_first_54 : decode cX9_first 54 = .ok (.getfield 93, 3) := by decide +kernel
theorem dX9_first_57 : decode cX9_first 57 = .ok (.getfield 185, 3) := by decide +kernel
theorem dX9_first_60 : decode cX9_first 60 = .ok (.iload_n 3, 1) := by decide +kernel
theorem dX9_first_61 : decode cX9_first 61 = .ok (.iaload, 1) := by decide +kernel
theorem dX9_first_62 : decode cX9_first 62 = .ok (.aload_n 0, 1) := by decide +kernel
theorem dX9_first_63 : decode cX9_first 63 = .ok (.getfield 23, 3) := by decide +kernel
theorem dX9_first_66 : decode cX9_first 66 = .ok (.getfield 93, 3) := by decide +kernel
theorem dX9_first_69 : decode cX9_first 69 = .ok (.getfield 185, 3) := by decide +kernel
theorem dX9_first_72 : decode cX9_first 72 = .ok (.iload_n 2, 1) := by decide +kernel
theorem dX9_first_73 : decode cX9_first 73 = .ok (.iaload, 1) := by decide +kernel
theorem dX9_first_74 : decode cX9_first 74 = .ok (.if_icmp .le 7, 3) := by decide +kernel
theorem dX9_first_77 : decode cX9_first 77 = .ok (.iconst 1, 1) := by decide +kernel
theorem dX9_first_78 : decode cX9_first 78 = .ok (.goto 4, 3) := by decide +kernel
theorem dX9_first_81 : decode cX9_first 81 = .ok (.iconst 0, 1) := by decide +kernel
theorem dX9_first_82 : decode cX9_first 82 = .ok (.istore 5, 2) := by decide +kernel
theorem dX9_first_84 : decode cX9_first 84 = .ok (.iload 4, 2) := by decide +kernel
theorem dX9_first_86 : decode cX9_first 86 = .ok (.iload_n 1, 1) := by decide +kernel
theorem dX9_first_87 : decode cX9_first 87 = .ok (.if_icmp .gt 8, 3) := by decide +kernel
theorem dX9_first_90 : decode cX9_first 90 = .ok (.iload 5, 2) := by decide +kernel
theorem dX9_first_92 : decode cX9_first 92 = .ok (.ifCond .eq 8, 3) := by decide +kernel
theorem dX9_first_95 : decode cX9_first 95 = .ok (.iload 4, 2) := by decide +kernel
theorem dX9_first_97 : decode cX9_first 97 = .ok (.istore_n 1, 1) := by decide +kernel
theorem dX9_first_98 : decode cX9_first 98 = .ok (.iload_n 3, 1) := by decide +kernel
theorem dX9_first_99 : decode cX9_first 99 = .ok (.istore_n 2, 1) := by decide +kernel
theorem dX9_first_100 : decode cX9_first 100 = .ok (.iinc 3 1, 3) := by decide +kernel
theorem dX9_first_103 : decode cX9_first 103 = .ok (.goto (-97), 3) := by decide +kernel
theorem dX9_first_106 : decode cX9_first 106 = .ok (.iload_n 2, 1) := by decide +kernel
theorem dX9_first_107 : decode cX9_first 107 = .ok (.ireturn, 1) := by decide +kernel
theorem dX9_owes_0 : decode cX9_owes 0 = .ok (.aload_n 0, 1) := by decide +kernel
theorem dX9_owes_1 : decode cX9_owes 1 = .ok (.iload_n 1, 1) := by decide +kernel
theorem dX9_owes_2 : decode cX9_owes 2 = .ok (.iload_n 2, 1) := by decide +kernel
theorem dX9_owes_3 : decode cX9_owes 3 = .ok (.iload_n 3, 1) := by decide +kernel
theorem dX9_owes_4 : decode cX9_owes 4 = .ok (.invokevirtual 105, 3) := by decide +kernel
theorem dX9_owes_7 : decode cX9_owes 7 = .ok (.ifCond .eq 16, 3) := by decide +kernel
theorem dX9_owes_10 : decode cX9_owes 10 = .ok (.aload_n 0, 1) := by decide +kernel
theorem dX9_owes_11 : decode cX9_owes 11 = .ok (.getfield 23, 3) := by decide +kernel
theorem dX9_owes_14 : decode cX9_owes 14 = .ok (.iload_n 1, 1) := by decide +kernel
theorem dX9_owes_15 : decode cX9_owes 15 = .ok (.iload_n 2, 1) := by decide +kernel
theorem dX9_owes_16 : decode cX9_owes 16 = .ok (.iload_n 3, 1) := by decide +kernel
theorem dX9_owes_17 : decode cX9_owes 17 = .ok (.invokevirtual 188, 3) := by decide +kernel
theorem dX9_owes_20 : decode cX9_owes 20 = .ok (.goto 5, 3) := by decide +kernel
theorem dX9_owes_23 : decode cX9_owes 23 = .ok (.bipush (-2), 2) := by decide +kernel
theorem dX9_owes_25 : decode cX9_owes 25 = .ok (.ireturn, 1) := by decide +kernel
theorem dX9_worth_0 : decode cX9_worth 0 = .ok (.aload_n 0, 1) := by decide +kernel
theorem dX9_worth_1 : decode cX9_worth 1 = .ok (.iload_n 1, 1) := by decide +kernel
theorem dX9_worth_2 : decode cX9_worth 2 = .ok (.iload_n 2, 1) := by decide +kernel
theorem dX9_worth_3 : decode cX9_worth 3 = .ok (.invokevirtual 191, 3) := by decide +kernel
theorem dX9_worth_6 : decode cX9_worth 6 = .ok (.ifCond .ne 6, 3) := by decide +kernel
theorem dX9_worth_9 : decode cX9_worth 9 = .ok (.bipush (-2), 2) := by decide +kernel
theorem dX9_worth_11 : decode cX9_worth 11 = .ok (.ireturn, 1) := by decide +kernel
theorem dX9_worth_12 : decode cX9_worth 12 = .ok (.aload_n 0, 1) := by decide +kernel
theorem dX9_worth_13 : decode cX9_worth 13 = .ok (.getfield 40, 3) := by decide +kernel
theorem dX9_worth_16 : decode cX9_worth 16 = .ok (.aload_n 0, 1) := by decide +kernel
theorem dX9_worth_17 : decode cX9_worth 17 = .ok (.getfield 23, 3) := by decide +kernel
theorem dX9_worth_20 : decode cX9_worth 20 = .ok (.iload_n 1, 1) := by decide +kernel
theorem dX9_worth_21 : decode cX9_worth 21 = .ok (.iload_n 2, 1) := by decide +kernel
theorem dX9_worth_22 : decode cX9_worth 22 = .ok (.invokevirtual 194, 3) := by decide +kernel
theorem dX9_worth_25 : decode cX9_worth 25 = .ok (.aload_n 0, 1) := by decide +kernel
theorem dX9_worth_26 : decode cX9_worth 26 = .ok (.getfield 40, 3) := by decide +kernel
theorem dX9_worth_29 : decode cX9_worth 29 = .ok (.getfield 198, 3) := by decide +kernel
theorem dX9_worth_32 : decode cX9_worth 32 = .ok (.ireturn, 1) := by decide +kernel
theorem dX9_round_0 : decode cX9_round 0 = .ok (.aload_n 0, 1) := by decide +kernel
theorem dX9_round_1 : decode cX9_round 1 = .ok (.iload_n 1, 1) := by decide +kernel
theorem dX9_round_2 : decode cX9_round 2 = .ok (.iload_n 2, 1) := by decide +kernel
theorem dX9_round_3 : decode cX9_round 3 = .ok (.invokevirtual 191, 3) := by decide +kernel
theorem dX9_round_6 : decode cX9_round 6 = .ok (.ifCond .ne 6, 3) := by decide +kernel
theorem dX9_round_9 : decode cX9_round 9 = .ok (.bipush (-2), 2) := by decide +kernel
theorem dX9_round_11 : decode cX9_round 11 = .ok (.ireturn, 1) := by decide +kernel
theorem dX9_round_12 : decode cX9_round 12 = .ok (.aload_n 0, 1) := by decide +kernel
theorem dX9_round_13 : decode cX9_round 13 = .ok (.getfield 40, 3) := by decide +kernel
theorem dX9_round_16 : decode cX9_round 16 = .ok (.aload_n 0, 1) := by decide +kernel
theorem dX9_round_17 : decode cX9_round 17 = .ok (.getfield 23, 3) := by decide +kernel
theorem dX9_round_20 : decode cX9_round 20 = .ok (.iload_n 1, 1) := by decide +kernel
theorem dX9_round_21 : decode cX9_round 21 = .ok (.iload_n 2, 1) := by decide +kernel
theorem dX9_round_22 : decode cX9_round 22 = .ok (.invokevirtual 194, 3) := by decide +kernel
theorem dX9_round_25 : decode cX9_round 25 = .ok (.iload_n 3, 1) := by decide +kernel
theorem dX9_round_26 : decode cX9_round 26 = .ok (.ifCond .lt 26, 3) := by decide +kernel
theorem dX9_round_29 : decode cX9_round 29 = .ok (.iload_n 3, 1) := by decide +kernel
theorem dX9_round_30 : decode cX9_round 30 = .ok (.aload_n 0, 1) := by decide +kernel
theorem dX9_round_31 : decode cX9_round 31 = .ok (.getfield 40, 3) := by decide +kernel
theorem dX9_round_34 : decode cX9_round 34 = .ok (.getfield 201, 3) := by decide +kernel
theorem dX9_round_37 : decode cX9_round 37 = .ok (.if_icmp .ge 15, 3) := by decide +kernel
theorem dX9_round_40 : decode cX9_round 40 = .ok (.aload_n 0, 1) := by decide +kernel
theorem dX9_round_41 : decode cX9_round 41 = .ok (.getfield 40, 3) := by decide +kernel
theorem dX9_round_44 : decode cX9_round 44 = .ok (.getfield 204, 3) := by decide +kernel
theorem dX9_round_47 : decode cX9_round 47 = .ok (.iload_n 3, 1) := by decide +kernel
theorem dX9_round_48 : decode cX9_round 48 = .ok (.iaload, 1) := by decide +kernel
theorem dX9_round_49 : decode cX9_round 49 = .ok (.goto 4, 3) := by decide +kernel
theorem dX9_round_52 : decode cX9_round 52 = .ok (.iconst (-1), 1) := by decide +kernel
theorem dX9_round_53 : decode cX9_round 53 = .ok (.ireturn, 1) := by decide +kernel
theorem dX9_over_0 : decode cX9_over 0 = .ok (.aload_n 0, 1) := by decide +kernel
theorem dX9_over_1 : decode cX9_over 1 = .ok (.iload_n 1, 1) := by decide +kernel
theorem dX9_over_2 : decode cX9_over 2 = .ok (.iload_n 2, 1) := by decide +kernel
theorem dX9_over_3 : decode cX9_over 3 = .ok (.invokevirtual 191, 3) := by decide +kernel
theorem dX9_over_6 : decode cX9_over 6 = .ok (.ifCond .ne 6, 3) := by decide +kernel
theorem dX9_over_9 : decode cX9_over 9 = .ok (.bipush (-2), 2) := by decide +kernel
theorem dX9_over_11 : decode cX9_over 11 = .ok (.ireturn, 1) := by decide +kernel
theorem dX9_over_12 : decode cX9_over 12 = .ok (.aload_n 0, 1) := by decide +kernel
theorem dX9_over_13 : decode cX9_over 13 = .ok (.getfield 40, 3) := by decide +kernel
theorem dX9_over_16 : decode cX9_over 16 = .ok (.aload_n 0, 1) := by decide +kernel
theorem dX9_over_17 : decode cX9_over 17 = .ok (.getfield 23, 3) := by decide +kernel
theorem dX9_over_20 : decode cX9_over 20 = .ok (.iload_n 1, 1) := by decide +kernel
theorem dX9_over_21 : decode cX9_over 21 = .ok (.iload_n 2, 1) := by decide +kernel
theorem dX9_over_22 : decode cX9_over 22 = .ok (.invokevirtual 194, 3) := by decide +kernel
theorem dX9_over_25 : decode cX9_over 25 = .ok (.aload_n 0, 1) := by decide +kernel
theorem dX9_over_26 : decode cX9_over 26 = .ok (.getfield 40, 3) := by decide +kernel
theorem dX9_over_29 : decode cX9_over 29 = .ok (.getfield 207, 3) := by decide +kernel
theorem dX9_over_32 : decode cX9_over 32 = .ok (.ireturn, 1) := by decide +kernel
theorem dX9_may_0 : decode cX9_may 0 = .ok (.iload_n 1, 1) := by decide +kernel
theorem dX9_may_1 : decode cX9_may 1 = .ok (.invokestatic 134, 3) := by decide +kernel
theorem dX9_may_4 : decode cX9_may 4 = .ok (.ifCond .eq 12, 3) := by decide +kernel
theorem dX9_may_7 : decode cX9_may 7 = .ok (.aload_n 0, 1) := by decide +kernel
theorem dX9_may_8 : decode cX9_may 8 = .ok (.iload_n 2, 1) := by decide +kernel
theorem dX9_may_9 : decode cX9_may 9 = .ok (.iload_n 3, 1) := by decide +kernel
theorem dX9_may_10 : decode cX9_may 10 = .ok (.invokevirtual 191, 3) := by decide +kernel
theorem dX9_may_13 : decode cX9_may 13 = .ok (.ifCond .ne 6, 3) := by decide +kernel
theorem dX9_may_16 : decode cX9_may 16 = .ok (.bipush (-2), 2) := by decide +kernel
theorem dX9_may_18 : decode cX9_may 18 = .ok (.ireturn, 1) := by decide +kernel
theorem dX9_may_19 : decode cX9_may 19 = .ok (.aload_n 0, 1) := by decide +kernel
theorem dX9_may_20 : decode cX9_may 20 = .ok (.getfield 33, 3) := by decide +kernel
theorem dX9_may_23 : decode cX9_may 23 = .ok (.iload_n 1, 1) := by decide +kernel
theorem dX9_may_24 : decode cX9_may 24 = .ok (.aaload, 1) := by decide +kernel
theorem dX9_may_25 : decode cX9_may 25 = .ok (.astore 4, 2) := by decide +kernel
theorem dX9_may_27 : decode cX9_may 27 = .ok (.aload 4, 2) := by decide +kernel
theorem dX9_may_29 : decode cX9_may 29 = .ok (.getfield 138, 3) := by decide +kernel
theorem dX9_may_32 : decode cX9_may 32 = .ok (.ifCond .ne 6, 3) := by decide +kernel
theorem dX9_may_35 : decode cX9_may 35 = .ok (.bipush (-6), 2) := by decide +kernel
theorem dX9_may_37 : decode cX9_may 37 = .ok (.ireturn, 1) := by decide +kernel
theorem dX9_may_38 : decode cX9_may 38 = .ok (.aload_n 0, 1) := by decide +kernel
theorem dX9_may_39 : decode cX9_may 39 = .ok (.getfield 40, 3) := by decide +kernel
theorem dX9_may_42 : decode cX9_may 42 = .ok (.aload_n 0, 1) := by decide +kernel
theorem dX9_may_43 : decode cX9_may 43 = .ok (.getfield 23, 3) := by decide +kernel
theorem dX9_may_46 : decode cX9_may 46 = .ok (.iload_n 2, 1) := by decide +kernel
theorem dX9_may_47 : decode cX9_may 47 = .ok (.iload_n 3, 1) := by decide +kernel
theorem dX9_may_48 : decode cX9_may 48 = .ok (.aload 4, 2) := by decide +kernel
theorem dX9_may_50 : decode cX9_may 50 = .ok (.invokevirtual 210, 3) := by decide +kernel
theorem dX9_may_53 : decode cX9_may 53 = .ok (.ifCond .eq 7, 3) := by decide +kernel
theorem dX9_may_56 : decode cX9_may 56 = .ok (.iconst 1, 1) := by decide +kernel
theorem dX9_may_57 : decode cX9_may 57 = .ok (.goto 4, 3) := by decide +kernel
theorem dX9_may_60 : decode cX9_may 60 = .ok (.iconst 0, 1) := by decide +kernel
theorem dX9_may_61 : decode cX9_may 61 = .ok (.ireturn, 1) := by decide +kernel
theorem dX9_fewest_0 : decode cX9_fewest 0 = .ok (.aload_n 0, 1) := by decide +kernel
theorem dX9_fewest_1 : decode cX9_fewest 1 = .ok (.getfield 23, 3) := by decide +kernel
theorem dX9_fewest_4 : decode cX9_fewest 4 = .ok (.getfield 93, 3) := by decide +kernel
theorem dX9_fewest_7 : decode cX9_fewest 7 = .ok (.iload_n 1, 1) := by decide +kernel
theorem dX9_fewest_8 : decode cX9_fewest 8 = .ok (.invokevirtual 158, 3) := by decide +kernel
theorem dX9_fewest_11 : decode cX9_fewest 11 = .ok (.ifCond .eq 18, 3) := by decide +kernel
theorem dX9_fewest_14 : decode cX9_fewest 14 = .ok (.aload_n 0, 1) := by decide +kernel
theorem dX9_fewest_15 : decode cX9_fewest 15 = .ok (.getfield 40, 3) := by decide +kernel
theorem dX9_fewest_18 : decode cX9_fewest 18 = .ok (.aload_n 0, 1) := by decide +kernel
theorem dX9_fewest_19 : decode cX9_fewest 19 = .ok (.getfield 23, 3) := by decide +kernel
theorem dX9_fewest_22 : decode cX9_fewest 22 = .ok (.iload_n 1, 1) := by decide +kernel
theorem dX9_fewest_23 : decode cX9_fewest 23 = .ok (.invokevirtual 214, 3) := by decide +kernel
theorem dX9_fewest_26 : decode cX9_fewest 26 = .ok (.goto 5, 3) := by decide +kernel
theorem dX9_fewest_29 : decode cX9_fewest 29 = .ok (.bipush (-2), 2) := by decide +kernel
theorem dX9_fewest_31 : decode cX9_fewest 31 = .ok (.ireturn, 1) := by decide +kernel
theorem dX9_lost_0 : decode cX9_lost 0 = .ok (.aload_n 0, 1) := by decide +kernel
theorem dX9_lost_1 : decode cX9_lost 1 = .ok (.getfield 23, 3) := by decide +kernel
theorem dX9_lost_4 : decode cX9_lost 4 = .ok (.getfield 93, 3) := by decide +kernel
theorem dX9_lost_7 : decode cX9_lost 7 = .ok (.iload_n 1, 1) := by decide +kernel
theorem dX9_lost_8 : decode cX9_lost 8 = .ok (.invokevirtual 158, 3) := by decide +kernel
theorem dX9_lost_11 : decode cX9_lost 11 = .ok (.ifCond .eq 18, 3) := by decide +kernel
theorem dX9_lost_14 : decode cX9_lost 14 = .ok (.aload_n 0, 1) := by decide +kernel
theorem dX9_lost_15 : decode cX9_lost 15 = .ok (.getfield 40, 3) := by decide +kernel
theorem dX9_lost_18 : decode cX9_lost 18 = .ok (.aload_n 0, 1) := by decide +kernel
theorem dX9_lost_19 : decode cX9_lost 19 = .ok (.getfield 23, 3) := by decide +kernel
theorem dX9_lost_22 : decode cX9_lost 22 = .ok (.iload_n 1, 1) := by decide +kernel
theorem dX9_lost_23 : decode cX9_lost 23 = .ok (.invokevirtual 218, 3) := by decide +kernel
theorem dX9_lost_26 : decode cX9_lost 26 = .ok (.goto 5, 3) := by decide +kernel
theorem dX9_lost_29 : decode cX9_lost 29 = .ok (.bipush (-2), 2) := by decide +kernel
theorem dX9_lost_31 : decode cX9_lost 31 = .ok (.ireturn, 1) := by decide +kernel
theorem dX9_soon_0 : decode cX9_soon 0 = .ok (.aload_n 0, 1) := by decide +kernel
theorem dX9_soon_1 : decode cX9_soon 1 = .ok (.getfield 23, 3) := by decide +kernel
theorem dX9_soon_4 : decode cX9_soon 4 = .ok (.getfield 93, 3) := by decide +kernel
theorem dX9_soon_7 : decode cX9_soon 7 = .ok (.iload_n 1, 1) := by decide +kernel
theorem dX9_soon_8 : decode cX9_soon 8 = .ok (.iload_n 2, 1) := by decide +kernel
theorem dX9_soon_9 : decode cX9_soon 9 = .ok (.invokevirtual 126, 3) := by decide +kernel
theorem dX9_soon_12 : decode cX9_soon 12 = .ok (.ifCond .ne 6, 3) := by decide +kernel
theorem dX9_soon_15 : decode cX9_soon 15 = .ok (.bipush (-2), 2) := by decide +kernel
theorem dX9_soon_17 : decode cX9_soon 17 = .ok (.ireturn, 1) := by decide +kernel
theorem dX9_soon_18 : decode cX9_soon 18 = .ok (.aload_n 0, 1) := by decide +kernel
theorem dX9_soon_19 : decode cX9_soon 19 = .ok (.getfield 47, 3) := by decide +kernel
theorem dX9_soon_22 : decode cX9_soon 22 = .ok (.aload_n 0, 1) := by decide +kernel
theorem dX9_soon_23 : decode cX9_soon 23 = .ok (.getfield 23, 3) := by decide +kernel
theorem dX9_soon_26 : decode cX9_soon 26 = .ok (.iload_n 1, 1) := by decide +kernel
theorem dX9_soon_27 : decode cX9_soon 27 = .ok (.iload_n 2, 1) := by decide +kernel
theorem dX9_soon_28 : decode cX9_soon 28 = .ok (.invokevirtual 221, 3) := by decide +kernel
theorem dX9_soon_31 : decode cX9_soon 31 = .ok (.aload_n 0, 1) := by decide +kernel
theorem dX9_soon_32 : decode cX9_soon 32 = .ok (.getfield 47, 3) := by decide +kernel
theorem dX9_soon_35 : decode cX9_soon 35 = .ok (.getfield 224, 3) := by decide +kernel
theorem dX9_soon_38 : decode cX9_soon 38 = .ok (.ireturn, 1) := by decide +kernel
theorem dX9_path_0 : decode cX9_path 0 = .ok (.aload_n 0, 1) := by decide +kernel
theorem dX9_path_1 : decode cX9_path 1 = .ok (.getfield 23, 3) := by decide +kernel
theorem dX9_path_4 : decode cX9_path 4 = .ok (.getfield 93, 3) := by decide +kernel
theorem dX9_path_7 : decode cX9_path 7 = .ok (.iload_n 1, 1) := by decide +kernel
theorem dX9_path_8 : decode cX9_path 8 = .ok (.iload_n 2, 1) := by decide +kernel
theorem dX9_path_9 : decode cX9_path 9 = .ok (.invokevirtual 126, 3) := by decide +kernel
theorem dX9_path_12 : decode cX9_path 12 = .ok (.ifCond .ne 6, 3) := by decide +kernel
theorem dX9_path_15 : decode cX9_path 15 = .ok (.bipush (-2), 2) := by decide +kernel
theorem dX9_path_17 : decode cX9_path 17 = .ok (.ireturn, 1) := by decide +kernel
theorem dX9_path_18 : decode cX9_path 18 = .ok (.aload_n 0, 1) := by decide +kernel
theorem dX9_path_19 : decode cX9_path 19 = .ok (.getfield 47, 3) := by decide +kernel
theorem dX9_path_22 : decode cX9_path 22 = .ok (.aload_n 0, 1) := by decide +kernel
theorem dX9_path_23 : decode cX9_path 23 = .ok (.getfield 23, 3) := by decide +kernel
theorem dX9_path_26 : decode cX9_path 26 = .ok (.iload_n 1, 1) := by decide +kernel
theorem dX9_path_27 : decode cX9_path 27 = .ok (.iload_n 2, 1) := by decide +kernel
theorem dX9_path_28 : decode cX9_path 28 = .ok (.invokevirtual 221, 3) := by decide +kernel
theorem dX9_path_31 : decode cX9_path 31 = .ok (.iload_n 3, 1) := by decide +kernel
theorem dX9_path_32 : decode cX9_path 32 = .ok (.ifCond .lt 26, 3) := by decide +kernel
theorem dX9_path_35 : decode cX9_path 35 = .ok (.iload_n 3, 1) := by decide +kernel
theorem dX9_path_36 : decode cX9_path 36 = .ok (.aload_n 0, 1) := by decide +kernel
theorem dX9_path_37 : decode cX9_path 37 = .ok (.getfield 47, 3) := by decide +kernel
theorem dX9_path_40 : decode cX9_path 40 = .ok (.getfield 224, 3) := by decide +kernel
theorem dX9_path_43 : decode cX9_path 43 = .ok (.if_icmp .ge 15, 3) := by decide +kernel
theorem dX9_path_46 : decode cX9_path 46 = .ok (.aload_n 0, 1) := by decide +kernel
theorem dX9_path_47 : decode cX9_path 47 = .ok (.getfield 47, 3) := by decide +kernel
theorem dX9_path_50 : decode cX9_path 50 = .ok (.getfield 225, 3) := by decide +kernel
theorem dX9_path_53 : decode cX9_path 53 = .ok (.iload_n 3, 1) := by decide +kernel
theorem dX9_path_54 : decode cX9_path 54 = .ok (.iaload, 1) := by decide +kernel
theorem dX9_path_55 : decode cX9_path 55 = .ok (.goto 4, 3) := by decide +kernel
theorem dX9_path_58 : decode cX9_path 58 = .ok (.iconst (-1), 1) := by decide +kernel
theorem dX9_path_59 : decode cX9_path 59 = .ok (.ireturn, 1) := by decide +kernel
theorem dX9_reach_0 : decode cX9_reach 0 = .ok (.aload_n 0, 1) := by decide +kernel
theorem dX9_reach_1 : decode cX9_reach 1 = .ok (.getfield 23, 3) := by decide +kernel
theorem dX9_reach_4 : decode cX9_reach 4 = .ok (.getfield 93, 3) := by decide +kernel
theorem dX9_reach_7 : decode cX9_reach 7 = .ok (.iload_n 1, 1) := by decide +kernel
theorem dX9_reach_8 : decode cX9_reach 8 = .ok (.invokevirtual 158, 3) := by decide +kernel
theorem dX9_reach_11 : decode cX9_reach 11 = .ok (.ifCond .eq 15, 3) := by decide +kernel
theorem dX9_reach_14 : decode cX9_reach 14 = .ok (.aload_n 0, 1) := by decide +kernel
theorem dX9_reach_15 : decode cX9_reach 15 = .ok (.getfield 23, 3) := by decide +kernel
theorem dX9_reach_18 : decode cX9_reach 18 = .ok (.iload_n 1, 1) := by decide +kernel
theorem dX9_reach_19 : decode cX9_reach 19 = .ok (.iconst (-1), 1) := by decide +kernel
theorem dX9_reach_20 : decode cX9_reach 20 = .ok (.invokevirtual 228, 3) := by decide +kernel
theorem dX9_reach_23 : decode cX9_reach 23 = .ok (.goto 5, 3) := by decide +kernel
theorem dX9_reach_26 : decode cX9_reach 26 = .ok (.bipush (-2), 2) := by decide +kernel
theorem dX9_reach_28 : decode cX9_reach 28 = .ok (.ireturn, 1) := by decide +kernel
theorem dX9_drop_0 : decode cX9_drop 0 = .ok (.aload_n 0, 1) := by decide +kernel
theorem dX9_drop_1 : decode cX9_drop 1 = .ok (.getfield 23, 3) := by decide +kernel
theorem dX9_drop_4 : decode cX9_drop 4 = .ok (.getfield 93, 3) := by decide +kernel
theorem dX9_drop_7 : decode cX9_drop 7 = .ok (.iload_n 1, 1) := by decide +kernel
theorem dX9_drop_8 : decode cX9_drop 8 = .ok (.invokevirtual 158, 3) := by decide +kernel
theorem dX9_drop_11 : decode cX9_drop 11 = .ok (.ifCond .ne 6, 3) := by decide +kernel
theorem dX9_drop_14 : decode cX9_drop 14 = .ok (.bipush (-2), 2) := by decide +kernel
theorem dX9_drop_16 : decode cX9_drop 16 = .ok (.ireturn, 1) := by decide +kernel
theorem dX9_drop_17 : decode cX9_drop 17 = .ok (.iconst (-1), 1) := by decide +kernel
theorem dX9_drop_18 : decode cX9_drop 18 = .ok (.istore_n 2, 1) := by decide +kernel
theorem dX9_drop_19 : decode cX9_drop 19 = .ok (.iconst 0, 1) := by decide +kernel
theorem dX9_drop_20 : decode cX9_drop 20 = .ok (.istore_n 3, 1) := by decide +kernel
theorem dX9_drop_21 : decode cX9_drop 21 = .ok (.iload_n 3, 1) := by decide +kernel
theorem dX9_drop_22 : decode cX9_drop 22 = .ok (.aload_n 0, 1) := by decide +kernel
theorem dX9_drop_23 : decode cX9_drop 23 = .ok (.getfield 23, 3) := by decide +kernel
theorem dX9_drop_26 : decode cX9_drop 26 = .ok (.getfield 93, 3) := by decide +kernel
theorem dX9_drop_29 : decode cX9_drop 29 = .ok (.getfield 94, 3) := by decide +kernel
theorem dX9_drop_32 : decode cX9_drop 32 = .ok (.if_icmp .ge 66, 3) := by decide +kernel
theorem dX9_drop_35 : decode cX9_drop 35 = .ok (.iload_n 2, 1) := by decide +kernel
theorem dX9_drop_36 : decode cX9_drop 36 = .ok (.ifCond .lt 30, 3) := by decide +kernel
theorem dX9_drop_39 : decode cX9_drop 39 = .ok (.aload_n 0, 1) := by decide +kernel
theorem dX9_drop_40 : decode cX9_drop 40 = .ok (.getfield 23, 3) := by decide +kernel
theorem dX9_drop_43 : decode cX9_drop 43 = .ok (.getfield 93, 3) := by decide +kernel
theorem dX9_drop_46 : decode cX9_drop 46 = .ok (.getfield 185, 3) := by decide +kernel
theorem dX9_drop_49 : decode cX9_drop 49 = .ok (.iload_n 3, 1) := by decide +kernel
theorem dX9_drop_50 : decode cX9_drop 50 = .ok (.iaload, 1) := by decide +kernel
theorem dX9_drop_51 : decode cX9_drop 51 = .ok (.aload_n 0, 1) := by decide +kernel
theorem dX9_drop_52 : decode cX9_drop 52 = .ok (.getfield 23, 3) := by decide +kernel
theorem dX9_drop_55 : decode cX9_drop 55 = .ok (.getfield 93, 3) := by decide +kernel
theorem dX9_drop_58 : decode cX9_drop 58 = .ok (.getfield 185, 3) := by decide +kernel
theorem dX9_drop_61 : decode cX9_drop 61 = .ok (.iload_n 2, 1) := by decide +kernel
theorem dX9_drop_62 : decode cX9_drop 62 = .ok (.iaload, 1) := by decide +kernel
theorem dX9_drop_63 : decode cX9_drop 63 = .ok (.if_icmp .ge 7, 3) := by decide +kernel
theorem dX9_drop_66 : decode cX9_drop 66 = .ok (.iconst 1, 1) := by decide +kernel
theorem dX9_drop_67 : decode cX9_drop 67 = .ok (.goto 4, 3) := by decide +kernel
theorem dX9_drop_70 : decode cX9_drop 70 = .ok (.iconst 0, 1) := by decide +kernel
theorem dX9_drop_71 : decode cX9_drop 71 = .ok (.istore 4, 2) := by decide +kernel
theorem dX9_drop_73 : decode cX9_drop 73 = .ok (.iload 4, 2) := by decide +kernel
theorem dX9_drop_75 : decode cX9_drop 75 = .ok (.ifCond .eq 17, 3) := by decide +kernel
theorem dX9_drop_78 : decode cX9_drop 78 = .ok (.aload_n 0, 1) := by decide +kernel
theorem dX9_drop_79 : decode cX9_drop 79 = .ok (.getfield 23, 3) := by decide +kernel
theorem dX9_drop_82 : decode cX9_drop 82 = .ok (.iload_n 1, 1) := by decide +kernel
theorem dX9_drop_83 : decode cX9_drop 83 = .ok (.iload_n 3, 1) := by decide +kernel
theorem dX9_drop_84 : decode cX9_drop 84 = .ok (.invokevirtual 231, 3) := by decide +kernel
theorem dX9_drop_87 : decode cX9_drop 87 = .ok (.ifCond .eq 5, 3) := by decide +kernel
theorem dX9_drop_90 : decode cX9_drop 90 = .ok (.iload_n 3, 1) := by decide +kernel
theorem dX9_drop_91 : decode cX9_drop 91 = .ok (.istore_n 2, 1) := by decide +kernel
theorem dX9_drop_92 : decode cX9_drop 92 = .ok (.iinc 3 1, 3) := by decide +kernel
theorem dX9_drop_95 : decode cX9_drop 95 = .ok (.goto (-74), 3) := by decide +kernel
theorem dX9_drop_98 : decode cX9_drop 98 = .ok (.iload_n 2, 1) := by decide +kernel
theorem dX9_drop_99 : decode cX9_drop 99 = .ok (.ireturn, 1) := by decide +kernel
theorem dX9_tie_0 : decode cX9_tie 0 = .ok (.aload_n 0, 1) := by decide +kernel
theorem dX9_tie_1 : decode cX9_tie 1 = .ok (.getfield 23, 3) := by decide +kernel
theorem dX9_tie_4 : decode cX9_tie 4 = .ok (.getfield 93, 3) := by decide +kernel
theorem dX9_tie_7 : decode cX9_tie 7 = .ok (.iload_n 1, 1) := by decide +kernel
theorem dX9_tie_8 : decode cX9_tie 8 = .ok (.iload_n 2, 1) := by decide +kernel
theorem dX9_tie_9 : decode cX9_tie 9 = .ok (.invokevirtual 126, 3) := by decide +kernel
theorem dX9_tie_12 : decode cX9_tie 12 = .ok (.ifCond .ne 6, 3) := by decide +kernel
theorem dX9_tie_15 : decode cX9_tie 15 = .ok (.bipush (-2), 2) := by decide +kernel
theorem dX9_tie_17 : decode cX9_tie 17 = .ok (.ireturn, 1) := by decide +kernel
theorem dX9_tie_18 : decode cX9_tie 18 = .ok (.aload_n 0, 1) := by decide +kernel
theorem dX9_tie_19 : decode cX9_tie 19 = .ok (.getfield 23, 3) := by decide +kernel
theorem dX9_tie_22 : decode cX9_tie 22 = .ok (.iload_n 1, 1) := by decide +kernel
theorem dX9_tie_23 : decode cX9_tie 23 = .ok (.iload_n 2, 1) := by decide +kernel
theorem dX9_tie_24 : decode cX9_tie 24 = .ok (.invokevirtual 155, 3) := by decide +kernel
theorem dX9_tie_27 : decode cX9_tie 27 = .ok (.ifCond .ne 5, 3) := by decide +kernel
theorem dX9_tie_30 : decode cX9_tie 30 = .ok (.iconst (-1), 1) := by decide +kernel
theorem dX9_tie_31 : decode cX9_tie 31 = .ok (.ireturn, 1) := by decide +kernel
theorem dX9_tie_32 : decode cX9_tie 32 = .ok (.aload_n 0, 1) := by decide +kernel
theorem dX9_tie_33 : decode cX9_tie 33 = .ok (.getfield 23, 3) := by decide +kernel
theorem dX9_tie_36 : decode cX9_tie 36 = .ok (.iload_n 1, 1) := by decide +kernel
theorem dX9_tie_37 : decode cX9_tie 37 = .ok (.iload_n 2, 1) := by decide +kernel
theorem dX9_tie_38 : decode cX9_tie 38 = .ok (.invokevirtual 234, 3) := by decide +kernel
theorem dX9_tie_41 : decode cX9_tie 41 = .ok (.ifCond .eq 7, 3) := by decide +kernel
theorem dX9_tie_44 : decode cX9_tie 44 = .ok (.iconst 1, 1) := by decide +kernel
theorem dX9_tie_45 : decode cX9_tie 45 = .ok (.goto 4, 3) := by decide +kernel
theorem dX9_tie_48 : decode cX9_tie 48 = .ok (.iconst 0, 1) := by decide +kernel
theorem dX9_tie_49 : decode cX9_tie 49 = .ok (.ireturn, 1) := by decide +kernel
theorem dX9_rings_0 : decode cX9_rings 0 = .ok (.aload_n 0, 1) := by decide +kernel
theorem dX9_rings_1 : decode cX9_rings 1 = .ok (.getfield 23, 3) := by decide +kernel
theorem dX9_rings_4 : decode cX9_rings 4 = .ok (.invokevirtual 237, 3) := by decide +kernel
theorem dX9_rings_7 : decode cX9_rings 7 = .ok (.iconst 0, 1) := by decide +kernel
theorem dX9_rings_8 : decode cX9_rings 8 = .ok (.istore_n 1, 1) := by decide +kernel
theorem dX9_rings_9 : decode cX9_rings 9 = .ok (.iconst 0, 1) := by decide +kernel
theorem dX9_rings_10 : decode cX9_rings 10 = .ok (.istore_n 2, 1) := by decide +kernel
theorem dX9_rings_11 : decode cX9_rings 11 = .ok (.iload_n 2, 1) := by decide +kernel
theorem dX9_rings_12 : decode cX9_rings 12 = .ok (.aload_n 0, 1) := by decide +kernel
theorem dX9_rings_13 : decode cX9_rings 13 = .ok (.getfield 23, 3) := by decide +kernel
theorem dX9_rings_16 : decode cX9_rings 16 = .ok (.getfield 93, 3) := by decide +kernel
theorem dX9_rings_19 : decode cX9_rings 19 = .ok (.getfield 94, 3) := by decide +kernel
theorem dX9_rings_22 : decode cX9_rings 22 = .ok (.if_icmp .ge 33, 3) := by decide +kernel
theorem dX9_rings_25 : decode cX9_rings 25 = .ok (.aload_n 0, 1) := by decide +kernel
theorem dX9_rings_26 : decode cX9_rings 26 = .ok (.getfield 23, 3) := by decide +kernel
theorem dX9_rings_29 : decode cX9_rings 29 = .ok (.iload_n 2, 1) := by decide +kernel
theorem dX9_rings_30 : decode cX9_rings 30 = .ok (.invokevirtual 240, 3) := by decide +kernel
theorem dX9_rings_33 : decode cX9_rings 33 = .ok (.istore_n 3, 1) := by decide +kernel
theorem dX9_rings_34 : decode cX9_rings 34 = .ok (.iload_n 3, 1) := by decide +kernel
theorem dX9_rings_35 : decode cX9_rings 35 = .ok (.ifCond .eq 14, 3) := by decide +kernel
theorem dX9_rings_38 : decode cX9_rings 38 = .ok (.iload_n 3, 1) := by decide +kernel
theorem dX9_rings_39 : decode cX9_rings 39 = .ok (.invokestatic 243, 3) := by decide +kernel
theorem dX9_rings_42 : decode cX9_rings 42 = .ok (.iload_n 2, 1) := by decide +kernel
theorem dX9_rings_43 : decode cX9_rings 43 = .ok (.if_icmp .ne 6, 3) := by decide +kernel
theorem dX9_rings_46 : decode cX9_rings 46 = .ok (.iinc 1 1, 3) := by decide +kernel
theorem dX9_rings_49 : decode cX9_rings 49 = .ok (.iinc 2 1, 3) := by decide +kernel
theorem dX9_rings_52 : decode cX9_rings 52 = .ok (.goto (-41), 3) := by decide +kernel
theorem dX9_rings_55 : decode cX9_rings 55 = .ok (.iload_n 1, 1) := by decide +kernel
theorem dX9_rings_56 : decode cX9_rings 56 = .ok (.ireturn, 1) := by decide +kernel
theorem dX9_ring_0 : decode cX9_ring 0 = .ok (.aload_n 0, 1) := by decide +kernel
theorem dX9_ring_1 : decode cX9_ring 1 = .ok (.getfield 23, 3) := by decide +kernel
theorem dX9_ring_4 : decode cX9_ring 4 = .ok (.getfield 93, 3) := by decide +kernel
theorem dX9_ring_7 : decode cX9_ring 7 = .ok (.iload_n 1, 1) := by decide +kernel
theorem dX9_ring_8 : decode cX9_ring 8 = .ok (.invokevirtual 158, 3) := by decide +kernel
theorem dX9_ring_11 : decode cX9_ring 11 = .ok (.ifCond .ne 6, 3) := by decide +kernel
theorem dX9_ring_14 : decode cX9_ring 14 = .ok (.bipush (-2), 2) := by decide +kernel
theorem dX9_ring_16 : decode cX9_ring 16 = .ok (.ireturn, 1) := by decide +kernel
theorem dX9_ring_17 : decode cX9_ring 17 = .ok (.aload_n 0, 1) := by decide +kernel
theorem dX9_ring_18 : decode cX9_ring 18 = .ok (.getfield 23, 3) := by decide +kernel
theorem dX9_ring_21 : decode cX9_ring 21 = .ok (.invokevirtual 237, 3) := by decide +kernel
theorem dX9_ring_24 : decode cX9_ring 24 = .ok (.aload_n 0, 1) := by decide +kernel
theorem dX9_ring_25 : decode cX9_ring 25 = .ok (.getfield 23, 3) := by decide +kernel
theorem dX9_ring_28 : decode cX9_ring 28 = .ok (.iload_n 1, 1) := by decide +kernel
theorem dX9_ring_29 : decode cX9_ring 29 = .ok (.invokevirtual 240, 3) := by decide +kernel
theorem dX9_ring_32 : decode cX9_ring 32 = .ok (.ireturn, 1) := by decide +kernel
theorem dX9_house_0 : decode cX9_house 0 = .ok (.aload_n 0, 1) := by decide +kernel
theorem dX9_house_1 : decode cX9_house 1 = .ok (.getfield 23, 3) := by decide +kernel
theorem dX9_house_4 : decode cX9_house 4 = .ok (.getfield 93, 3) := by decide +kernel
theorem dX9_house_7 : decode cX9_house 7 = .ok (.iload_n 1, 1) := by decide +kernel
theorem dX9_house_8 : decode cX9_house 8 = .ok (.invokevirtual 158, 3) := by decide +kernel
theorem dX9_house_11 : decode cX9_house 11 = .ok (.ifCond .ne 6, 3) := by decide +kernel
theorem dX9_house_14 : decode cX9_house 14 = .ok (.ldc 248, 2) := by decide +kernel
theorem dX9_house_16 : decode cX9_house 16 = .ok (.ireturn, 1) := by decide +kernel
theorem dX9_house_17 : decode cX9_house 17 = .ok (.iload_n 2, 1) := by decide +kernel
theorem dX9_house_18 : decode cX9_house 18 = .ok (.tableswitch 165 0 8 #[50, 63, 76, 89, 102, 115, 128, 141, 153], 50) := by decide +kernel
theorem dX9_house_68 : decode cX9_house 68 = .ok (.aload_n 0, 1) := by decide +kernel
theorem dX9_house_69 : decode cX9_house 69 = .ok (.getfield 23, 3) := by decide +kernel
theorem dX9_house_72 : decode cX9_house 72 = .ok (.getfield 93, 3) := by decide +kernel
theorem dX9_house_75 : decode cX9_house 75 = .ok (.getfield 249, 3) := by decide +kernel
theorem dX9_house_78 : decode cX9_house 78 = .ok (.iload_n 1, 1) := by decide +kernel
theorem dX9_house_79 : decode cX9_house 79 = .ok (.iaload, 1) := by decide +kernel
theorem dX9_house_80 : decode cX9_house 80 = .ok (.ireturn, 1) := by decide +kernel
theorem dX9_house_81 : decode cX9_house 81 = .ok (.aload_n 0, 1) := by decide +kernel
theorem dX9_house_82 : decode cX9_house 82 = .ok (.getfield 23, 3) := by decide +kernel
theorem dX9_house_85 : decode cX9_house 85 = .ok (.getfield 93, 3) := by decide +kernel
theorem dX9_house_88 : decode cX9_house 88 = .ok (.getfield 252, 3) := by decide +kernel
theorem dX9_house_91 : decode cX9_house 91 = .ok (.iload_n 1, 1) := by decide +kernel
theorem dX9_house_92 : decode cX9_house 92 = .ok (.iaload, 1) := by decide +kernel
theorem dX9_house_93 : decode cX9_house 93 = .ok (.ireturn, 1) := by decide +kernel
theorem dX9_house_94 : decode cX9_house 94 = .ok (.aload_n 0, 1) := by decide +kernel
theorem dX9_house_95 : decode cX9_house 95 = .ok (.getfield 23, 3) := by decide +kernel
theorem dX9_house_98 : decode cX9_house 98 = .ok (.getfield 93, 3) := by decide +kernel
theorem dX9_house_101 : decode cX9_house 101 = .ok (.getfield 185, 3) := by decide +kernel
theorem dX9_house_104 : decode cX9_house 104 = .ok (.iload_n 1, 1) := by decide +kernel
theorem dX9_house_105 : decode cX9_house 105 = .ok (.iaload, 1) := by decide +kernel
theorem dX9_house_106 : decode cX9_house 106 = .ok (.ireturn, 1) := by decide +kernel
theorem dX9_house_107 : decode cX9_house 107 = .ok (.aload_n 0, 1) := by decide +kernel
theorem dX9_house_108 : decode cX9_house 108 = .ok (.getfield 23, 3) := by decide +kernel
theorem dX9_house_111 : decode cX9_house 111 = .ok (.getfield 93, 3) := by decide +kernel
theorem dX9_house_114 : decode cX9_house 114 = .ok (.getfield 255, 3) := by decide +kernel
theorem dX9_house_117 : decode cX9_house 117 = .ok (.iload_n 1, 1) := by decide +kernel
theorem dX9_house_118 : decode cX9_house 118 = .ok (.iaload, 1) := by decide +kernel
theorem dX9_house_119 : decode cX9_house 119 = .ok (.ireturn, 1) := by decide +kernel
theorem dX9_house_120 : decode cX9_house 120 = .ok (.aload_n 0, 1) := by decide +kernel
theorem dX9_house_121 : decode cX9_house 121 = .ok (.getfield 23, 3) := by decide +kernel
theorem dX9_house_124 : decode cX9_house 124 = .ok (.getfield 93, 3) := by decide +kernel
theorem dX9_house_127 : decode cX9_house 127 = .ok (.getfield 258, 3) := by decide +kernel
theorem dX9_house_130 : decode cX9_house 130 = .ok (.iload_n 1, 1) := by decide +kernel
theorem dX9_house_131 : decode cX9_house 131 = .ok (.iaload, 1) := by decide +kernel
theorem dX9_house_132 : decode cX9_house 132 = .ok (.ireturn, 1) := by decide +kernel
theorem dX9_house_133 : decode cX9_house 133 = .ok (.aload_n 0, 1) := by decide +kernel
theorem dX9_house_134 : decode cX9_house 134 = .ok (.getfield 23, 3) := by decide +kernel
theorem dX9_house_137 : decode cX9_house 137 = .ok (.getfield 93, 3) := by decide +kernel
theorem dX9_house_140 : decode cX9_house 140 = .ok (.getfield 261, 3) := by decide +kernel
theorem dX9_house_143 : decode cX9_house 143 = .ok (.iload_n 1, 1) := by decide +kernel
theorem dX9_house_144 : decode cX9_house 144 = .ok (.iaload, 1) := by decide +kernel
theorem dX9_house_145 : decode cX9_house 145 = .ok (.ireturn, 1) := by decide +kernel
theorem dX9_house_146 : decode cX9_house 146 = .ok (.aload_n 0, 1) := by decide +kernel
theorem dX9_house_147 : decode cX9_house 147 = .ok (.getfield 23, 3) := by decide +kernel
theorem dX9_house_150 : decode cX9_house 150 = .ok (.getfield 93, 3) := by decide +kernel
theorem dX9_house_153 : decode cX9_house 153 = .ok (.getfield 264, 3) := by decide +kernel
theorem dX9_house_156 : decode cX9_house 156 = .ok (.iload_n 1, 1) := by decide +kernel
theorem dX9_house_157 : decode cX9_house 157 = .ok (.iaload, 1) := by decide +kernel
theorem dX9_house_158 : decode cX9_house 158 = .ok (.ireturn, 1) := by decide +kernel
theorem dX9_house_159 : decode cX9_house 159 = .ok (.aload_n 0, 1) := by decide +kernel
theorem dX9_house_160 : decode cX9_house 160 = .ok (.getfield 23, 3) := by decide +kernel
theorem dX9_house_163 : decode cX9_house 163 = .ok (.getfield 113, 3) := by decide +kernel
theorem dX9_house_166 : decode cX9_house 166 = .ok (.iload_n 1, 1) := by decide +kernel
theorem dX9_house_167 : decode cX9_house 167 = .ok (.invokevirtual 265, 3) := by decide +kernel
theorem dX9_house_170 : decode cX9_house 170 = .ok (.ireturn, 1) := by decide +kernel
theorem dX9_house_171 : decode cX9_house 171 = .ok (.aload_n 0, 1) := by decide +kernel
theorem dX9_house_172 : decode cX9_house 172 = .ok (.getfield 23, 3) := by decide +kernel
theorem dX9_house_175 : decode cX9_house 175 = .ok (.getfield 113, 3) := by decide +kernel
theorem dX9_house_178 : decode cX9_house 178 = .ok (.iload_n 1, 1) := by decide +kernel
theorem dX9_house_179 : decode cX9_house 179 = .ok (.invokevirtual 268, 3) := by decide +kernel
theorem dX9_house_182 : decode cX9_house 182 = .ok (.ireturn, 1) := by decide +kernel
theorem dX9_house_183 : decode cX9_house 183 = .ok (.ldc 248, 2) := by decide +kernel
theorem dX9_house_185 : decode cX9_house 185 = .ok (.ireturn, 1) := by decide +kernel
theorem dX9_beside_0 : decode cX9_beside 0 = .ok (.iload_n 1, 1) := by decide +kernel
theorem dX9_beside_1 : decode cX9_beside 1 = .ok (.invokestatic 271, 3) := by decide +kernel
theorem dX9_beside_4 : decode cX9_beside 4 = .ok (.ifCond .ne 6, 3) := by decide +kernel
theorem dX9_beside_7 : decode cX9_beside 7 = .ok (.bipush (-2), 2) := by decide +kernel
theorem dX9_beside_9 : decode cX9_beside 9 = .ok (.ireturn, 1) := by decide +kernel
theorem dX9_beside_10 : decode cX9_beside 10 = .ok (.aload_n 0, 1) := by decide +kernel
theorem dX9_beside_11 : decode cX9_beside 11 = .ok (.getfield 27, 3) := by decide +kernel
theorem dX9_beside_14 : decode cX9_beside 14 = .ok (.iload_n 1, 1) := by decide +kernel
theorem dX9_beside_15 : decode cX9_beside 15 = .ok (.aaload, 1) := by decide +kernel
theorem dX9_beside_16 : decode cX9_beside 16 = .ok (.astore_n 2, 1) := by decide +kernel
theorem dX9_beside_17 : decode cX9_beside 17 = .ok (.aload_n 2, 1) := by decide +kernel
theorem dX9_beside_18 : decode cX9_beside 18 = .ok (.ifnonnull 6, 3) := by decide +kernel
theorem dX9_beside_21 : decode cX9_beside 21 = .ok (.bipush (-6), 2) := by decide +kernel
theorem dX9_beside_23 : decode cX9_beside 23 = .ok (.ireturn, 1) := by decide +kernel
theorem dX9_beside_24 : decode cX9_beside 24 = .ok (.aload_n 0, 1) := by decide +kernel
theorem dX9_beside_25 : decode cX9_beside 25 = .ok (.getfield 23, 3) := by decide +kernel
theorem dX9_beside_28 : decode cX9_beside 28 = .ok (.aload_n 2, 1) := by decide +kernel
theorem dX9_beside_29 : decode cX9_beside 29 = .ok (.getfield 274, 3) := by decide +kernel
theorem dX9_beside_32 : decode cX9_beside 32 = .ok (.aload_n 0, 1) := by decide +kernel
