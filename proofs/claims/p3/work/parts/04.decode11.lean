theorem dX9_feed_27 : decode cX9_feed 27 = .ok (.invokevirtual 67, 3) := by decide +kernel
theorem dX9_feed_30 : decode cX9_feed 30 = .ok (.aload_n 0, 1) := by decide +kernel
theorem dX9_feed_31 : decode cX9_feed 31 = .ok (.iload 4, 2) := by decide +kernel
theorem dX9_feed_33 : decode cX9_feed 33 = .ok (.invokevirtual 67, 3) := by decide +kernel
theorem dX9_feed_36 : decode cX9_feed 36 = .ok (.aload_n 0, 1) := by decide +kernel
theorem dX9_feed_37 : decode cX9_feed 37 = .ok (.iload 5, 2) := by decide +kernel
theorem dX9_feed_39 : decode cX9_feed 39 = .ok (.invokevirtual 67, 3) := by decide +kernel
theorem dX9_feed_42 : decode cX9_feed 42 = .ok (.aload_n 0, 1) := by decide +kernel
theorem dX9_feed_43 : decode cX9_feed 43 = .ok (.getfield 63, 3) := by decide +kernel
theorem dX9_feed_46 : decode cX9_feed 46 = .ok (.ireturn, 1) := by decide +kernel
theorem dX9_end_0 : decode cX9_end 0 = .ok (.iload_n 1, 1) := by decide +kernel
theorem dX9_end_1 : decode cX9_end 1 = .ok (.ifCond .lt 11, 3) := by decide +kernel
theorem dX9_end_4 : decode cX9_end 4 = .ok (.iload_n 1, 1) := by decide +kernel
theorem dX9_end_5 : decode cX9_end 5 = .ok (.aload_n 0, 1) := by decide +kernel
theorem dX9_end_6 : decode cX9_end 6 = .ok (.getfield 63, 3) := by decide +kernel
theorem dX9_end_9 : decode cX9_end 9 = .ok (.if_icmp .le 5, 3) := by decide +kernel
theorem dX9_end_12 : decode cX9_end 12 = .ok (.iconst (-1), 1) := by decide +kernel
theorem dX9_end_13 : decode cX9_end 13 = .ok (.ireturn, 1) := by decide +kernel
theorem dX9_end_14 : decode cX9_end 14 = .ok (.aload_n 0, 1) := by decide +kernel
theorem dX9_end_15 : decode cX9_end 15 = .ok (.iload_n 1, 1) := by decide +kernel
theorem dX9_end_16 : decode cX9_end 16 = .ok (.putfield 63, 3) := by decide +kernel
theorem dX9_end_19 : decode cX9_end 19 = .ok (.iload_n 1, 1) := by decide +kernel
theorem dX9_end_20 : decode cX9_end 20 = .ok (.ireturn, 1) := by decide +kernel
theorem dX9_town_0 : decode cX9_town 0 = .ok (.aload_n 0, 1) := by decide +kernel
theorem dX9_town_1 : decode cX9_town 1 = .ok (.getfield 16, 3) := by decide +kernel
theorem dX9_town_4 : decode cX9_town 4 = .ok (.aload_n 0, 1) := by decide +kernel
theorem dX9_town_5 : decode cX9_town 5 = .ok (.getfield 9, 3) := by decide +kernel
theorem dX9_town_8 : decode cX9_town 8 = .ok (.aload_n 0, 1) := by decide +kernel
theorem dX9_town_9 : decode cX9_town 9 = .ok (.getfield 63, 3) := by decide +kernel
theorem dX9_town_12 : decode cX9_town 12 = .ok (.invokevirtual 71, 3) := by decide +kernel
theorem dX9_town_15 : decode cX9_town 15 = .ok (.aload_n 0, 1) := by decide +kernel
theorem dX9_town_16 : decode cX9_town 16 = .ok (.iconst 0, 1) := by decide +kernel
theorem dX9_town_17 : decode cX9_town 17 = .ok (.putfield 63, 3) := by decide +kernel
theorem dX9_town_20 : decode cX9_town 20 = .ok (.aload_n 0, 1) := by decide +kernel
theorem dX9_town_21 : decode cX9_town 21 = .ok (.getfield 16, 3) := by decide +kernel
theorem dX9_town_24 : decode cX9_town 24 = .ok (.getfield 75, 3) := by decide +kernel
theorem dX9_town_27 : decode cX9_town 27 = .ok (.ifCond .eq 6, 3) := by decide +kernel
theorem dX9_town_30 : decode cX9_town 30 = .ok (.bipush (-4), 2) := by decide +kernel
theorem dX9_town_32 : decode cX9_town 32 = .ok (.ireturn, 1) := by decide +kernel
theorem dX9_town_33 : decode cX9_town 33 = .ok (.aload_n 0, 1) := by decide +kernel
theorem dX9_town_34 : decode cX9_town 34 = .ok (.getfield 23, 3) := by decide +kernel
theorem dX9_town_37 : decode cX9_town 37 = .ok (.aload_n 0, 1) := by decide +kernel
theorem dX9_town_38 : decode cX9_town 38 = .ok (.getfield 16, 3) := by decide +kernel
theorem dX9_town_41 : decode cX9_town 41 = .ok (.getfield 78, 3) := by decide +kernel
theorem dX9_town_44 : decode cX9_town 44 = .ok (.aload_n 0, 1) := by decide +kernel
theorem dX9_town_45 : decode cX9_town 45 = .ok (.getfield 16, 3) := by decide +kernel
theorem dX9_town_48 : decode cX9_town 48 = .ok (.getfield 82, 3) := by decide +kernel
theorem dX9_town_51 : decode cX9_town 51 = .ok (.invokevirtual 86, 3) := by decide +kernel
theorem dX9_town_54 : decode cX9_town 54 = .ok (.aload_n 0, 1) := by decide +kernel
theorem dX9_town_55 : decode cX9_town 55 = .ok (.invokevirtual 90, 3) := by decide +kernel
theorem dX9_town_58 : decode cX9_town 58 = .ok (.aload_n 0, 1) := by decide +kernel
theorem dX9_town_59 : decode cX9_town 59 = .ok (.getfield 23, 3) := by decide +kernel
theorem dX9_town_62 : decode cX9_town 62 = .ok (.getfield 93, 3) := by decide +kernel
theorem dX9_town_65 : decode cX9_town 65 = .ok (.getfield 94, 3) := by decide +kernel
theorem dX9_town_68 : decode cX9_town 68 = .ok (.ireturn, 1) := by decide +kernel
theorem dX9_fault_0 : decode cX9_fault 0 = .ok (.iload_n 1, 1) := by decide +kernel
theorem dX9_fault_1 : decode cX9_fault 1 = .ok (.ifCond .ne 11, 3) := by decide +kernel
theorem dX9_fault_4 : decode cX9_fault 4 = .ok (.aload_n 0, 1) := by decide +kernel
theorem dX9_fault_5 : decode cX9_fault 5 = .ok (.getfield 16, 3) := by decide +kernel
theorem dX9_fault_8 : decode cX9_fault 8 = .ok (.getfield 75, 3) := by decide +kernel
theorem dX9_fault_11 : decode cX9_fault 11 = .ok (.ireturn, 1) := by decide +kernel
theorem dX9_fault_12 : decode cX9_fault 12 = .ok (.iload_n 1, 1) := by decide +kernel
theorem dX9_fault_13 : decode cX9_fault 13 = .ok (.iconst 1, 1) := by decide +kernel
theorem dX9_fault_14 : decode cX9_fault 14 = .ok (.if_icmp .ne 13, 3) := by decide +kernel
theorem dX9_fault_17 : decode cX9_fault 17 = .ok (.aload_n 0, 1) := by decide +kernel
theorem dX9_fault_18 : decode cX9_fault 18 = .ok (.getfield 16, 3) := by decide +kernel
theorem dX9_fault_21 : decode cX9_fault 21 = .ok (.getfield 99, 3) := by decide +kernel
theorem dX9_fault_24 : decode cX9_fault 24 = .ok (.goto 4, 3) := by decide +kernel
theorem dX9_fault_27 : decode cX9_fault 27 = .ok (.iconst (-1), 1) := by decide +kernel
theorem dX9_fault_28 : decode cX9_fault 28 = .ok (.ireturn, 1) := by decide +kernel
theorem dX9_days_0 : decode cX9_days 0 = .ok (.iload_n 1, 1) := by decide +kernel
theorem dX9_days_1 : decode cX9_days 1 = .ok (.ifCond .lt 24, 3) := by decide +kernel
theorem dX9_days_4 : decode cX9_days 4 = .ok (.iload_n 1, 1) := by decide +kernel
theorem dX9_days_5 : decode cX9_days 5 = .ok (.bipush 60, 2) := by decide +kernel
theorem dX9_days_7 : decode cX9_days 7 = .ok (.if_icmp .gt 18, 3) := by decide +kernel
theorem dX9_days_10 : decode cX9_days 10 = .ok (.aload_n 0, 1) := by decide +kernel
theorem dX9_days_11 : decode cX9_days 11 = .ok (.getfield 23, 3) := by decide +kernel
theorem dX9_days_14 : decode cX9_days 14 = .ok (.getfield 102, 3) := by decide +kernel
theorem dX9_days_17 : decode cX9_days 17 = .ok (.iload_n 1, 1) := by decide +kernel
theorem dX9_days_18 : decode cX9_days 18 = .ok (.iadd, 1) := by decide +kernel
theorem dX9_days_19 : decode cX9_days 19 = .ok (.sipush 399, 3) := by decide +kernel
theorem dX9_days_22 : decode cX9_days 22 = .ok (.if_icmp .le 6, 3) := by decide +kernel
theorem dX9_days_25 : decode cX9_days 25 = .ok (.bipush (-2), 2) := by decide +kernel
theorem dX9_days_27 : decode cX9_days 27 = .ok (.ireturn, 1) := by decide +kernel
theorem dX9_days_28 : decode cX9_days 28 = .ok (.aload_n 0, 1) := by decide +kernel
theorem dX9_days_29 : decode cX9_days 29 = .ok (.getfield 23, 3) := by decide +kernel
theorem dX9_days_32 : decode cX9_days 32 = .ok (.dup, 1) := by decide +kernel
theorem dX9_days_33 : decode cX9_days 33 = .ok (.getfield 102, 3) := by decide +kernel
theorem dX9_days_36 : decode cX9_days 36 = .ok (.iload_n 1, 1) := by decide +kernel
theorem dX9_days_37 : decode cX9_days 37 = .ok (.iadd, 1) := by decide +kernel
theorem dX9_days_38 : decode cX9_days 38 = .ok (.putfield 102, 3) := by decide +kernel
theorem dX9_days_41 : decode cX9_days 41 = .ok (.aload_n 0, 1) := by decide +kernel
theorem dX9_days_42 : decode cX9_days 42 = .ok (.invokevirtual 90, 3) := by decide +kernel
theorem dX9_days_45 : decode cX9_days 45 = .ok (.aload_n 0, 1) := by decide +kernel
theorem dX9_days_46 : decode cX9_days 46 = .ok (.getfield 23, 3) := by decide +kernel
theorem dX9_days_49 : decode cX9_days 49 = .ok (.getfield 102, 3) := by decide +kernel
theorem dX9_days_52 : decode cX9_days 52 = .ok (.ireturn, 1) := by decide +kernel
theorem dX9_bars_0 : decode cX9_bars 0 = .ok (.aload_n 0, 1) := by decide +kernel
theorem dX9_bars_1 : decode cX9_bars 1 = .ok (.iload_n 1, 1) := by decide +kernel
theorem dX9_bars_2 : decode cX9_bars 2 = .ok (.iload_n 2, 1) := by decide +kernel
theorem dX9_bars_3 : decode cX9_bars 3 = .ok (.iload_n 3, 1) := by decide +kernel
theorem dX9_bars_4 : decode cX9_bars 4 = .ok (.invokevirtual 105, 3) := by decide +kernel
theorem dX9_bars_7 : decode cX9_bars 7 = .ok (.ifCond .eq 16, 3) := by decide +kernel
theorem dX9_bars_10 : decode cX9_bars 10 = .ok (.aload_n 0, 1) := by decide +kernel
theorem dX9_bars_11 : decode cX9_bars 11 = .ok (.getfield 23, 3) := by decide +kernel
theorem dX9_bars_14 : decode cX9_bars 14 = .ok (.iload_n 1, 1) := by decide +kernel
theorem dX9_bars_15 : decode cX9_bars 15 = .ok (.iload_n 2, 1) := by decide +kernel
theorem dX9_bars_16 : decode cX9_bars 16 = .ok (.iload_n 3, 1) := by decide +kernel
theorem dX9_bars_17 : decode cX9_bars 17 = .ok (.invokevirtual 109, 3) := by decide +kernel
theorem dX9_bars_20 : decode cX9_bars 20 = .ok (.goto 5, 3) := by decide +kernel
theorem dX9_bars_23 : decode cX9_bars 23 = .ok (.bipush (-2), 2) := by decide +kernel
theorem dX9_bars_25 : decode cX9_bars 25 = .ok (.ireturn, 1) := by decide +kernel
theorem dX9_does_0 : decode cX9_does 0 = .ok (.aload_n 0, 1) := by decide +kernel
theorem dX9_does_1 : decode cX9_does 1 = .ok (.iload_n 1, 1) := by decide +kernel
theorem dX9_does_2 : decode cX9_does 2 = .ok (.iload_n 2, 1) := by decide +kernel
theorem dX9_does_3 : decode cX9_does 3 = .ok (.iload_n 3, 1) := by decide +kernel
theorem dX9_does_4 : decode cX9_does 4 = .ok (.invokevirtual 105, 3) := by decide +kernel
theorem dX9_does_7 : decode cX9_does 7 = .ok (.ifCond .ne 6, 3) := by decide +kernel
theorem dX9_does_10 : decode cX9_does 10 = .ok (.bipush (-2), 2) := by decide +kernel
theorem dX9_does_12 : decode cX9_does 12 = .ok (.ireturn, 1) := by decide +kernel
theorem dX9_does_13 : decode cX9_does 13 = .ok (.aload_n 0, 1) := by decide +kernel
theorem dX9_does_14 : decode cX9_does 14 = .ok (.getfield 23, 3) := by decide +kernel
theorem dX9_does_17 : decode cX9_does 17 = .ok (.iload_n 1, 1) := by decide +kernel
theorem dX9_does_18 : decode cX9_does 18 = .ok (.iload_n 2, 1) := by decide +kernel
theorem dX9_does_19 : decode cX9_does 19 = .ok (.iload_n 3, 1) := by decide +kernel
theorem dX9_does_20 : decode cX9_does 20 = .ok (.invokevirtual 109, 3) := by decide +kernel
theorem dX9_does_23 : decode cX9_does 23 = .ok (.ifCond .eq 6, 3) := by decide +kernel
theorem dX9_does_26 : decode cX9_does 26 = .ok (.bipush (-5), 2) := by decide +kernel
theorem dX9_does_28 : decode cX9_does 28 = .ok (.ireturn, 1) := by decide +kernel
theorem dX9_does_29 : decode cX9_does 29 = .ok (.aload_n 0, 1) := by decide +kernel
theorem dX9_does_30 : decode cX9_does 30 = .ok (.getfield 23, 3) := by decide +kernel
theorem dX9_does_33 : decode cX9_does 33 = .ok (.getfield 113, 3) := by decide +kernel
theorem dX9_does_36 : decode cX9_does 36 = .ok (.invokevirtual 117, 3) := by decide +kernel
theorem dX9_does_39 : decode cX9_does 39 = .ok (.ifCond .eq 6, 3) := by decide +kernel
theorem dX9_does_42 : decode cX9_does 42 = .ok (.bipush (-3), 2) := by decide +kernel
theorem dX9_does_44 : decode cX9_does 44 = .ok (.ireturn, 1) := by decide +kernel
theorem dX9_does_45 : decode cX9_does 45 = .ok (.aload_n 0, 1) := by decide +kernel
theorem dX9_does_46 : decode cX9_does 46 = .ok (.invokevirtual 90, 3) := by decide +kernel
theorem dX9_does_49 : decode cX9_does 49 = .ok (.aload_n 0, 1) := by decide +kernel
theorem dX9_does_50 : decode cX9_does 50 = .ok (.getfield 23, 3) := by decide +kernel
theorem dX9_does_53 : decode cX9_does 53 = .ok (.iload_n 1, 1) := by decide +kernel
theorem dX9_does_54 : decode cX9_does 54 = .ok (.iload_n 2, 1) := by decide +kernel
theorem dX9_does_55 : decode cX9_does 55 = .ok (.iload_n 3, 1) := by decide +kernel
theorem dX9_does_56 : decode cX9_does 56 = .ok (.invokevirtual 123, 3) := by decide +kernel
theorem dX9_does_59 : decode cX9_does 59 = .ok (.ireturn, 1) := by decide +kernel
theorem dX9_meet_0 : decode cX9_meet 0 = .ok (.aload_n 0, 1) := by decide +kernel
theorem dX9_meet_1 : decode cX9_meet 1 = .ok (.getfield 23, 3) := by decide +kernel
theorem dX9_meet_4 : decode cX9_meet 4 = .ok (.getfield 93, 3) := by decide +kernel
theorem dX9_meet_7 : decode cX9_meet 7 = .ok (.iload_n 1, 1) := by decide +kernel
theorem dX9_meet_8 : decode cX9_meet 8 = .ok (.iload_n 2, 1) := by decide +kernel
theorem dX9_meet_9 : decode cX9_meet 9 = .ok (.invokevirtual 126, 3) := by decide +kernel
theorem dX9_meet_12 : decode cX9_meet 12 = .ok (.ifCond .ne 6, 3) := by decide +kernel
theorem dX9_meet_15 : decode cX9_meet 15 = .ok (.bipush (-2), 2) := by decide +kernel
theorem dX9_meet_17 : decode cX9_meet 17 = .ok (.ireturn, 1) := by decide +kernel
theorem dX9_meet_18 : decode cX9_meet 18 = .ok (.aload_n 0, 1) := by decide +kernel
theorem dX9_meet_19 : decode cX9_meet 19 = .ok (.getfield 23, 3) := by decide +kernel
theorem dX9_meet_22 : decode cX9_meet 22 = .ok (.getfield 113, 3) := by decide +kernel
theorem dX9_meet_25 : decode cX9_meet 25 = .ok (.invokevirtual 117, 3) := by decide +kernel
theorem dX9_meet_28 : decode cX9_meet 28 = .ok (.ifCond .eq 6, 3) := by decide +kernel
theorem dX9_meet_31 : decode cX9_meet 31 = .ok (.bipush (-3), 2) := by decide +kernel
theorem dX9_meet_33 : decode cX9_meet 33 = .ok (.ireturn, 1) := by decide +kernel
theorem dX9_meet_34 : decode cX9_meet 34 = .ok (.aload_n 0, 1) := by decide +kernel
theorem dX9_meet_35 : decode cX9_meet 35 = .ok (.invokevirtual 90, 3) := by decide +kernel
theorem dX9_meet_38 : decode cX9_meet 38 = .ok (.aload_n 0, 1) := by decide +kernel
theorem dX9_meet_39 : decode cX9_meet 39 = .ok (.getfield 23, 3) := by decide +kernel
theorem dX9_meet_42 : decode cX9_meet 42 = .ok (.iload_n 1, 1) := by decide +kernel
theorem dX9_meet_43 : decode cX9_meet 43 = .ok (.iload_n 2, 1) := by decide +kernel
theorem dX9_meet_44 : decode cX9_meet 44 = .ok (.invokevirtual 130, 3) := by decide +kernel
theorem dX9_meet_47 : decode cX9_meet 47 = .ok (.ireturn, 1) := by decide +kernel
theorem dX9_done_0 : decode cX9_done 0 = .ok (.iload_n 1, 1) := by decide +kernel
theorem dX9_done_1 : decode cX9_done 1 = .ok (.invokestatic 134, 3) := by decide +kernel
theorem dX9_done_4 : decode cX9_done 4 = .ok (.ifCond .ne 6, 3) := by decide +kernel
theorem dX9_done_7 : decode cX9_done 7 = .ok (.bipush (-2), 2) := by decide +kernel
theorem dX9_done_9 : decode cX9_done 9 = .ok (.ireturn, 1) := by decide +kernel
theorem dX9_done_10 : decode cX9_done 10 = .ok (.aload_n 0, 1) := by decide +kernel
theorem dX9_done_11 : decode cX9_done 11 = .ok (.getfield 33, 3) := by decide +kernel
theorem dX9_done_14 : decode cX9_done 14 = .ok (.iload_n 1, 1) := by decide +kernel
theorem dX9_done_15 : decode cX9_done 15 = .ok (.aaload, 1) := by decide +kernel
theorem dX9_done_16 : decode cX9_done 16 = .ok (.astore_n 2, 1) := by decide +kernel
theorem dX9_done_17 : decode cX9_done 17 = .ok (.aload_n 2, 1) := by decide +kernel
theorem dX9_done_18 : decode cX9_done 18 = .ok (.getfield 138, 3) := by decide +kernel
theorem dX9_done_21 : decode cX9_done 21 = .ok (.ifCond .ne 6, 3) := by decide +kernel
theorem dX9_done_24 : decode cX9_done 24 = .ok (.bipush (-6), 2) := by decide +kernel
theorem dX9_done_26 : decode cX9_done 26 = .ok (.ireturn, 1) := by decide +kernel
theorem dX9_done_27 : decode cX9_done 27 = .ok (.iconst 0, 1) := by decide +kernel
theorem dX9_done_28 : decode cX9_done 28 = .ok (.istore_n 3, 1) := by decide +kernel
theorem dX9_done_29 : decode cX9_done 29 = .ok (.iconst 0, 1) := by decide +kernel
theorem dX9_done_30 : decode cX9_done 30 = .ok (.istore 4, 2) := by decide +kernel
theorem dX9_done_32 : decode cX9_done 32 = .ok (.iload 4, 2) := by decide +kernel
theorem dX9_done_34 : decode cX9_done 34 = .ok (.iconst 2, 1) := by decide +kernel
theorem dX9_done_35 : decode cX9_done 35 = .ok (.iadd, 1) := by decide +kernel
theorem dX9_done_36 : decode cX9_done 36 = .ok (.aload_n 2, 1) := by decide +kernel
theorem dX9_done_37 : decode cX9_done 37 = .ok (.getfield 142, 3) := by decide +kernel
theorem dX9_done_40 : decode cX9_done 40 = .ok (.if_icmp .ge 74, 3) := by decide +kernel
theorem dX9_done_43 : decode cX9_done 43 = .ok (.aload_n 2, 1) := by decide +kernel
theorem dX9_done_44 : decode cX9_done 44 = .ok (.iload 4, 2) := by decide +kernel
theorem dX9_done_46 : decode cX9_done 46 = .ok (.invokevirtual 145, 3) := by decide +kernel
theorem dX9_done_49 : decode cX9_done 49 = .ok (.istore 5, 2) := by decide +kernel
theorem dX9_done_51 : decode cX9_done 51 = .ok (.aload_n 2, 1) := by decide +kernel
theorem dX9_done_52 : decode cX9_done 52 = .ok (.iload 4, 2) := by decide +kernel
theorem dX9_done_54 : decode cX9_done 54 = .ok (.iconst 1, 1) := by decide +kernel
theorem dX9_done_55 : decode cX9_done 55 = .ok (.iadd, 1) := by decide +kernel
theorem dX9_done_56 : decode cX9_done 56 = .ok (.invokevirtual 145, 3) := by decide +kernel
theorem dX9_done_59 : decode cX9_done 59 = .ok (.istore 6, 2) := by decide +kernel
theorem dX9_done_61 : decode cX9_done 61 = .ok (.aload_n 2, 1) := by decide +kernel
theorem dX9_done_62 : decode cX9_done 62 = .ok (.iload 4, 2) := by decide +kernel
theorem dX9_done_64 : decode cX9_done 64 = .ok (.iconst 2, 1) := by decide +kernel
theorem dX9_done_65 : decode cX9_done 65 = .ok (.iadd, 1) := by decide +kernel
theorem dX9_done_66 : decode cX9_done 66 = .ok (.invokevirtual 145, 3) := by decide +kernel
theorem dX9_done_69 : decode cX9_done 69 = .ok (.istore 7, 2) := by decide +kernel
theorem dX9_done_71 : decode cX9_done 71 = .ok (.iload 7, 2) := by decide +kernel
theorem dX9_done_73 : decode cX9_done 73 = .ok (.iconst 4, 1) := by decide +kernel
theorem dX9_done_74 : decode cX9_done 74 = .ok (.if_icmp .ne 14, 3) := by decide +kernel
theorem dX9_done_77 : decode cX9_done 77 = .ok (.aload_n 0, 1) := by decide +kernel
theorem dX9_done_78 : decode cX9_done 78 = .ok (.iload 5, 2) := by decide +kernel
theorem dX9_done_80 : decode cX9_done 80 = .ok (.iload 6, 2) := by decide +kernel
theorem dX9_done_82 : decode cX9_done 82 = .ok (.invokevirtual 149, 3) := by decide +kernel
theorem dX9_done_85 : decode cX9_done 85 = .ok (.goto 13, 3) := by decide +kernel
theorem dX9_done_88 : decode cX9_done 88 = .ok (.aload_n 0, 1) := by decide +kernel
theorem dX9_done_89 : decode cX9_done 89 = .ok (.iload 5, 2) := by decide +kernel
theorem dX9_done_91 : decode cX9_done 91 = .ok (.iload 6, 2) := by decide +kernel
theorem dX9_done_93 : decode cX9_done 93 = .ok (.iload 7, 2) := by decide +kernel
theorem dX9_done_95 : decode cX9_done 95 = .ok (.invokevirtual 152, 3) := by decide +kernel
theorem dX9_done_98 : decode cX9_done 98 = .ok (.istore 8, 2) := by decide +kernel
theorem dX9_done_100 : decode cX9_done 100 = .ok (.iload 8, 2) := by decide +kernel
theorem dX9_done_102 : decode cX9_done 102 = .ok (.ifCond .lt 6, 3) := by decide +kernel
theorem dX9_done_105 : decode cX9_done 105 = .ok (.iinc 3 1, 3) := by decide +kernel
theorem dX9_done_108 : decode cX9_done 108 = .ok (.iinc 4 3, 3) := by decide +kernel
theorem dX9_done_111 : decode cX9_done 111 = .ok (.goto (-79), 3) := by decide +kernel
theorem dX9_done_114 : decode cX9_done 114 = .ok (.iload_n 3, 1) := by decide +kernel
theorem dX9_done_115 : decode cX9_done 115 = .ok (.ireturn, 1) := by decide +kernel
theorem dX9_known_0 : decode cX9_known 0 = .ok (.aload_n 0, 1) := by decide +kernel
theorem dX9_known_1 : decode cX9_known 1 = .ok (.getfield 23, 3) := by decide +kernel
theorem dX9_known_4 : decode cX9_known 4 = .ok (.getfield 93, 3) := by decide +kernel
theorem dX9_known_7 : decode cX9_known 7 = .ok (.iload_n 1, 1) := by decide +kernel
theorem dX9_known_8 : decode cX9_known 8 = .ok (.iload_n 2, 1) := by decide +kernel
theorem dX9_known_9 : decode cX9_known 9 = .ok (.invokevirtual 126, 3) := by decide +kernel
theorem dX9_known_12 : decode cX9_known 12 = .ok (.ifCond .eq 15, 3) := by decide +kernel
theorem dX9_known_15 : decode cX9_known 15 = .ok (.aload_n 0, 1) := by decide +kernel
theorem dX9_known_16 : decode cX9_known 16 = .ok (.getfield 23, 3) := by decide +kernel
theorem dX9_known_19 : decode cX9_known 19 = .ok (.iload_n 1, 1) := by decide +kernel
theorem dX9_known_20 : decode cX9_known 20 = .ok (.iload_n 2, 1) := by decide +kernel
theorem dX9_known_21 : decode cX9_known 21 = .ok (.invokevirtual 155, 3) := by decide +kernel
theorem dX9_known_24 : decode cX9_known 24 = .ok (.goto 5, 3) := by decide +kernel
theorem dX9_known_27 : decode cX9_known 27 = .ok (.bipush (-2), 2) := by decide +kernel
theorem dX9_known_29 : decode cX9_known 29 = .ok (.ireturn, 1) := by decide +kernel
theorem dX9_debts_0 : decode cX9_debts 0 = .ok (.aload_n 0, 1) := by decide +kernel
theorem dX9_debts_1 : decode cX9_debts 1 = .ok (.getfield 23, 3) := by decide +kernel
theorem dX9_debts_4 : decode cX9_debts 4 = .ok (.getfield 93, 3) := by decide +kernel
theorem dX9_debts_7 : decode cX9_debts 7 = .ok (.iload_n 1, 1) := by decide +kernel
theorem dX9_debts_8 : decode cX9_debts 8 = .ok (.invokevirtual 158, 3) := by decide +kernel
theorem dX9_debts_11 : decode cX9_debts 11 = .ok (.ifCond .eq 18, 3) := by decide +kernel
theorem dX9_debts_14 : decode cX9_debts 14 = .ok (.aload_n 0, 1) := by decide +kernel
theorem dX9_debts_15 : decode cX9_debts 15 = .ok (.getfield 23, 3) := by decide +kernel
theorem dX9_debts_18 : decode cX9_debts 18 = .ok (.getfield 161, 3) := by decide +kernel
theorem dX9_debts_21 : decode cX9_debts 21 = .ok (.getfield 164, 3) := by decide +kernel
theorem dX9_debts_24 : decode cX9_debts 24 = .ok (.iload_n 1, 1) := by decide +kernel
theorem dX9_debts_25 : decode cX9_debts 25 = .ok (.iaload, 1) := by decide +kernel
theorem dX9_debts_26 : decode cX9_debts 26 = .ok (.goto 5, 3) := by decide +kernel
theorem dX9_debts_29 : decode cX9_debts 29 = .ok (.bipush (-2), 2) := by decide +kernel
theorem dX9_debts_31 : decode cX9_debts 31 = .ok (.ireturn, 1) := by decide +kernel
theorem dX9_debt_0 : decode cX9_debt 0 = .ok (.aload_n 0, 1) := by decide +kernel
theorem dX9_debt_1 : decode cX9_debt 1 = .ok (.getfield 23, 3) := by decide +kernel
theorem dX9_debt_4 : decode cX9_debt 4 = .ok (.getfield 93, 3) := by decide +kernel
theorem dX9_debt_7 : decode cX9_debt 7 = .ok (.iload_n 1, 1) := by decide +kernel
theorem dX9_debt_8 : decode cX9_debt 8 = .ok (.invokevirtual 158, 3) := by decide +kernel
theorem dX9_debt_11 : decode cX9_debt 11 = .ok (.ifCond .ne 5, 3) := by decide +kernel
theorem dX9_debt_14 : decode cX9_debt 14 = .ok (.iconst (-1), 1) := by decide +kernel
theorem dX9_debt_15 : decode cX9_debt 15 = .ok (.ireturn, 1) := by decide +kernel
theorem dX9_debt_16 : decode cX9_debt 16 = .ok (.aload_n 0, 1) := by decide +kernel
theorem dX9_debt_17 : decode cX9_debt 17 = .ok (.getfield 23, 3) := by decide +kernel
theorem dX9_debt_20 : decode cX9_debt 20 = .ok (.getfield 161, 3) := by decide +kernel
theorem dX9_debt_23 : decode cX9_debt 23 = .ok (.iload_n 1, 1) := by decide +kernel
theorem dX9_debt_24 : decode cX9_debt 24 = .ok (.iload_n 2, 1) := by decide +kernel
theorem dX9_debt_25 : decode cX9_debt 25 = .ok (.invokevirtual 167, 3) := by decide +kernel
theorem dX9_debt_28 : decode cX9_debt 28 = .ok (.istore 4, 2) := by decide +kernel
theorem dX9_debt_30 : decode cX9_debt 30 = .ok (.iload 4, 2) := by decide +kernel
theorem dX9_debt_32 : decode cX9_debt 32 = .ok (.ifCond .ge 5, 3) := by decide +kernel
theorem dX9_debt_35 : decode cX9_debt 35 = .ok (.iconst (-1), 1) := by decide +kernel
theorem dX9_debt_36 : decode cX9_debt 36 = .ok (.ireturn, 1) := by decide +kernel
theorem dX9_debt_37 : decode cX9_debt 37 = .ok (.iload_n 3, 1) := by decide +kernel
theorem dX9_debt_38 : decode cX9_debt 38 = .ok (.tableswitch 86 0 3 #[30, 44, 58, 72], 30) := by decide +kernel
theorem dX9_debt_68 : decode cX9_debt 68 = .ok (.aload_n 0, 1) := by decide +kernel
theorem dX9_debt_69 : decode cX9_debt 69 = .ok (.getfield 23, 3) := by decide +kernel
theorem dX9_debt_72 : decode cX9_debt 72 = .ok (.getfield 161, 3) := by decide +kernel
theorem dX9_debt_75 : decode cX9_debt 75 = .ok (.getfield 170, 3) := by decide +kernel
theorem dX9_debt_78 : decode cX9_debt 78 = .ok (.iload 4, 2) := by decide +kernel
theorem dX9_debt_80 : decode cX9_debt 80 = .ok (.iaload, 1) := by decide +kernel
theorem dX9_debt_81 : decode cX9_debt 81 = .ok (.ireturn, 1) := by decide +kernel
theorem dX9_debt_82 : decode cX9_debt 82 = .ok (.aload_n 0, 1) := by decide +kernel
theorem dX9_debt_83 : decode cX9_debt 83 = .ok (.getfield 23, 3) := by decide +kernel
theorem dX9_debt_86 : decode cX9_debt 86 = .ok (.getfield 161, 3) := by decide +kernel
theorem dX9_debt_89 : decode cX9_debt 89 = .ok (.getfield 173, 3) := by decide +kernel
theorem dX9_debt_92 : decode cX9_debt 92 = .ok (.iload 4, 2) := by decide +kernel
theorem dX9_debt_94 : decode cX9_debt 94 = .ok (.iaload, 1) := by decide +kernel
theorem dX9_debt_95 : decode cX9_debt 95 = .ok (.ireturn, 1) := by decide +kernel
theorem dX9_debt_96 : decode cX9_debt 96 = .ok (.aload_n 0, 1) := by decide +kernel
theorem dX9_debt_97 : decode cX9_debt 97 = .ok (.getfield 23, 3) := by decide +kernel
theorem dX9_debt_100 : decode cX9_debt 100 = .ok (.getfield 161, 3) := by decide +kernel
theorem dX9_debt_103 : decode cX9_debt 103 = .ok (.getfield 176, 3) := by decide +kernel
theorem dX9_debt_106 : decode cX9_debt 106 = .ok (.iload 4, 2) := by decide +kernel
theorem dX9_debt_108 : decode cX9_debt 108 = .ok (.iaload, 1) := by decide +kernel
theorem dX9_debt_109 : decode cX9_debt 109 = .ok (.ireturn, 1) := by decide +kernel
theorem dX9_debt_110 : decode cX9_debt 110 = .ok (.aload_n 0, 1) := by decide +kernel
theorem dX9_debt_111 : decode cX9_debt 111 = .ok (.getfield 23, 3) := by decide +kernel
theorem dX9_debt_114 : decode cX9_debt 114 = .ok (.getfield 161, 3) := by decide +kernel
theorem dX9_debt_117 : decode cX9_debt 117 = .ok (.getfield 179, 3) := by decide +kernel
theorem dX9_debt_120 : decode cX9_debt 120 = .ok (.iload 4, 2) := by decide +kernel
theorem dX9_debt_122 : decode cX9_debt 122 = .ok (.iaload, 1) := by decide +kernel
theorem dX9_debt_123 : decode cX9_debt 123 = .ok (.ireturn, 1) := by decide +kernel
theorem dX9_debt_124 : decode cX9_debt 124 = .ok (.iconst (-1), 1) := by decide +kernel
theorem dX9_debt_125 : decode cX9_debt 125 = .ok (.ireturn, 1) := by decide +kernel
theorem dX9_slights_0 : decode cX9_slights 0 = .ok (.aload_n 0, 1) := by decide +kernel
theorem dX9_slights_1 : decode cX9_slights 1 = .ok (.getfield 23, 3) := by decide +kernel
theorem dX9_slights_4 : decode cX9_slights 4 = .ok (.getfield 93, 3) := by decide +kernel
theorem dX9_slights_7 : decode cX9_slights 7 = .ok (.iload_n 1, 1) := by decide +kernel
theorem dX9_slights_8 : decode cX9_slights 8 = .ok (.invokevirtual 158, 3) := by decide +kernel
theorem dX9_slights_11 : decode cX9_slights 11 = .ok (.ifCond .eq 24, 3) := by decide +kernel
theorem dX9_slights_14 : decode cX9_slights 14 = .ok (.aload_n 0, 1) := by decide +kernel
theorem dX9_slights_15 : decode cX9_slights 15 = .ok (.getfield 23, 3) := by decide +kernel
theorem dX9_slights_18 : decode cX9_slights 18 = .ok (.getfield 161, 3) := by decide +kernel
theorem dX9_slights_21 : decode cX9_slights 21 = .ok (.iload_n 1, 1) := by decide +kernel
theorem dX9_slights_22 : decode cX9_slights 22 = .ok (.aload_n 0, 1) := by decide +kernel
theorem dX9_slights_23 : decode cX9_slights 23 = .ok (.getfield 23, 3) := by decide +kernel
theorem dX9_slights_26 : decode cX9_slights 26 = .ok (.getfield 102, 3) := by decide +kernel
theorem dX9_slights_29 : decode cX9_slights 29 = .ok (.invokevirtual 182, 3) := by decide +kernel
theorem dX9_slights_32 : decode cX9_slights 32 = .ok (.goto 5, 3) := by decide +kernel
theorem dX9_slights_35 : decode cX9_slights 35 = .ok (.bipush (-2), 2) := by decide +kernel
theorem dX9_slights_37 : decode cX9_slights 37 = .ok (.ireturn, 1) := by decide +kernel
theorem dX9_first_0 : decode cX9_first 0 = .ok (.iconst 0, 1) := by decide +kernel
theorem dX9_first_1 : decode cX9_first 1 = .ok (.istore_n 1, 1) := by decide +kernel
theorem dX9_first_2 : decode cX9_first 2 = .ok (.iconst (-1), 1) := by decide +kernel
theorem dX9_first_3 : decode cX9_first 3 = .ok (.istore_n 2, 1) := by decide +kernel
theorem dX9_first_4 : decode cX9_first 4 = .ok (.iconst 0, 1) := by decide +kernel
theorem dX9_first_5 : decode cX9_first 5 = .ok (.istore_n 3, 1) := by decide +kernel
theorem dX9_first_6 : decode cX9_first 6 = .ok (.iload_n 3, 1) := by decide +kernel
theorem dX9_first_7 : decode cX9_first 7 = .ok (.aload_n 0, 1) := by decide +kernel
theorem dX9_first_8 : decode cX9_first 8 = .ok (.getfield 23, 3) := by decide +kernel
theorem dX9_first_11 : decode cX9_first 11 = .ok (.getfield 93, 3) := by decide +kernel
theorem dX9_first_14 : decode cX9_first 14 = .ok (.getfield 94, 3) := by decide +kernel
theorem dX9_first_17 : decode cX9_first 17 = .ok (.if_icmp .ge 89, 3) := by decide +kernel
theorem dX9_first_20 : decode cX9_first 20 = .ok (.aload_n 0, 1) := by decide +kernel
theorem dX9_first_21 : decode cX9_first 21 = .ok (.getfield 23, 3) := by decide +kernel
theorem dX9_first_24 : decode cX9_first 24 = .ok (.getfield 161, 3) := by decide +kernel
theorem dX9_first_27 : decode cX9_first 27 = .ok (.iload_n 3, 1) := by decide +kernel
theorem dX9_first_28 : decode cX9_first 28 = .ok (.aload_n 0, 1) := by decide +kernel
theorem dX9_first_29 : decode cX9_first 29 = .ok (.getfield 23, 3) := by decide +kernel
theorem dX9_first_32 : decode cX9_first 32 = .ok (.getfield 102, 3) := by decide +kernel
theorem dX9_first_35 : decode cX9_first 35 = .ok (.invokevirtual 182, 3) := by decide +kernel
theorem dX9_first_38 : decode cX9_first 38 = .ok (.istore 4, 2) := by decide +kernel
theorem dX9_first_40 : decode cX9_first 40 = .ok (.iload_n 2, 1) := by decide +kernel
theorem dX9_first_41 : decode cX9_first 41 = .ok (.ifCond .lt 40, 3) := by decide +kernel
theorem dX9_first_44 : decode cX9_first 44 = .ok (.iload 4, 2) := by decide +kernel
theorem dX9_first_46 : decode cX9_first 46 = .ok (.iload_n 1, 1) := by decide +kernel
theorem dX9_first_47 : decode cX9_first 47 = .ok (.if_icmp .ne 34, 3) := by decide +kernel
theorem dX9_first_50 : decode cX9_first 50 = .ok (.aload_n 0, 1) := by decide +kernel
theorem dX9_first_51 : decode cX9_first 51 = .ok (.getfield 23, 3) := by decide +kernel
theorem dX9_first_54 : decode cX9_first 54 = .ok (.getfield 93, 3) := by decide +kernel
theorem dX9_first_57 : decode cX9_first 57 = .ok (.getfield 185, 3) := by decide +kernel
theorem dX9_first_60 : decode cX9_first 60 = .ok (.iload_n 3, 1) := by decide +kernel
theorem dX9_first_61 : decode cX9_first 61 = .ok (.iaload, 1) := by decide +kernel
theorem dX9_first_62 : decode cX9_first 62 = .ok (.aload_n 0, 1) := by decide +kernel
theorem dX9_first_63 : decode cX9_first 63 = .ok (.getfield 23, 3) := by decide +kernel
theorem dX9_first_66 : decode cX9_first 66 = .ok (.getfield 93, 3) := by decide +kernel
theorem dX9_first_69 : decode cX9_first 69 = .ok (.getfield 185, 3) := by decide +kernel
theorem dX9_first_72 : decode cX9_first 72 = .ok (.iload_n 2, 1) := by decide +kernel
theorem dX9_first_73 : decode cX9_first 73 = .ok (.iaload, 1) := by decide +kernel
theorem dX9_first_74 : decode cX9_first 74 = .ok (.if_icmp .le 7, 3) := by decide +kernel
theorem dX9_first_77 : decode cX9_first 77 = .ok (.iconst 1, 1) := by decide +kernel
theorem dX9_first_78 : decode cX9_first 78 = .ok (.goto 4, 3) := by decide +kernel
theorem dX9_first_81 : decode cX9_first 81 = .ok (.iconst 0, 1) := by decide +kernel
theorem dX9_first_82 : decode cX9_first 82 = .ok (.istore 5, 2) := by decide +kernel
theorem dX9_first_84 : decode cX9_first 84 = .ok (.iload 4, 2) := by decide +kernel
theorem dX9_first_86 : decode cX9_first 86 = .ok (.iload_n 1, 1) := by decide +kernel
theorem dX9_first_87 : decode cX9_first 87 = .ok (.if_icmp .gt 8, 3) := by decide +kernel
theorem dX9_first_90 : decode cX9_first 90 = .ok (.iload 5, 2) := by decide +kernel
theorem dX9_first_92 : decode cX9_first 92 = .ok (.ifCond .eq 8, 3) := by decide +kernel
theorem dX9_first_95 : decode cX9_first 95 = .ok (.iload 4, 2) := by decide +kernel
theorem dX9_first_97 : decode cX9_first 97 = .ok (.istore_n 1, 1) := by decide +kernel
theorem dX9_first_98 : decode cX9_first 98 = .ok (.iload_n 3, 1) := by decide +kernel
theorem dX9_first_99 : decode cX9_first 99 = .ok (.istore_n 2, 1) := by decide +kernel
theorem dX9_first_100 : decode cX9_first 100 = .ok (.iinc 3 1, 3) := by decide +kernel
theorem dX9_first_103 : decode cX9_first 103 = .ok (.goto (-97), 3) := by decide +kernel
theorem dX9_first_106 : decode cX9_first 106 = .ok (.iload_n 2, 1) := by decide +kernel
theorem dX9_first_107 : decode cX9_first 107 = .ok (.ireturn, 1) := by decide +kernel
theorem dX9_owes_0 : decode cX9_owes 0 = .ok (.aload_n 0, 1) := by decide +kernel
theorem dX9_owes_1 : decode cX9_owes 1 = .ok (.iload_n 1, 1) := by decide +kernel
theorem dX9_owes_2 : decode cX9_owes 2 = .ok (.iload_n 2, 1) := by decide +kernel
theorem dX9_owes_3 : decode cX9_owes 3 = .ok (.iload_n 3, 1) := by decide +kernel
theorem dX9_owes_4 : decode cX9_owes 4 = .ok (.invokevirtual 105, 3) := by decide +kernel
theorem dX9_owes_7 : decode cX9_owes 7 = .ok (.ifCond .eq 16, 3) := by decide +kernel
theorem dX9_owes_10 : decode cX9_owes 10 = .ok (.aload_n 0, 1) := by decide +kernel
theorem dX9_owes_11 : decode cX9_owes 11 = .ok (.getfield 23, 3) := by decide +kernel
theorem dX9_owes_14 : decode cX9_owes 14 = .ok (.iload_n 1, 1) := by decide +kernel
theorem dX9_owes_15 : decode cX9_owes 15 = .ok (.iload_n 2, 1) := by decide +kernel
theorem dX9_owes_16 : decode cX9_owes 16 = .ok (.iload_n 3, 1) := by decide +kernel
theorem dX9_owes_17 : decode cX9_owes 17 = .ok (.invokevirtual 188, 3) := by decide +kernel
theorem dX9_owes_20 : decode cX9_owes 20 = .ok (.goto 5, 3) := by decide +kernel
theorem dX9_owes_23 : decode cX9_owes 23 = .ok (.bipush (-2), 2) := by decide +kernel
theorem dX9_owes_25 : decode cX9_owes 25 = .ok (.ireturn, 1) := by decide +kernel
