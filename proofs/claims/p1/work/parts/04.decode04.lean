theorem dX10_back_14 : decode cX10_back 14 = .ok (.ireturn, 1) := by decide +kernel
theorem dX10_back_15 : decode cX10_back 15 = .ok (.aload_n 0, 1) := by decide +kernel
theorem dX10_back_16 : decode cX10_back 16 = .ok (.getfield 20, 3) := by decide +kernel
theorem dX10_back_19 : decode cX10_back 19 = .ok (.iload_n 1, 1) := by decide +kernel
theorem dX10_back_20 : decode cX10_back 20 = .ok (.baload, 1) := by decide +kernel
theorem dX10_back_21 : decode cX10_back 21 = .ok (.ifCond .ne 6, 3) := by decide +kernel
theorem dX10_back_24 : decode cX10_back 24 = .ok (.bipush (-6), 2) := by decide +kernel
theorem dX10_back_26 : decode cX10_back 26 = .ok (.ireturn, 1) := by decide +kernel
theorem dX10_ofHouse_0 : decode cX10_ofHouse 0 = .ok (.aload_n 0, 1) := by decide +kernel
theorem dX10_ofHouse_1 : decode cX10_ofHouse 1 = .ok (.getfield 13, 3) := by decide +kernel
theorem dX10_ofHouse_4 : decode cX10_ofHouse 4 = .ok (.bipush 10, 2) := by decide +kernel
theorem dX10_ofHouse_6 : decode cX10_ofHouse 6 = .ok (.bipush 9, 2) := by decide +kernel
theorem dX10_ofHouse_8 : decode cX10_ofHouse 8 = .ok (.iload_n 1, 1) := by decide +kernel
theorem dX10_ofHouse_9 : decode cX10_ofHouse 9 = .ok (.imul, 1) := by decide +kernel
theorem dX10_ofHouse_10 : decode cX10_ofHouse 10 = .ok (.iadd, 1) := by decide +kernel
theorem dX10_ofHouse_11 : decode cX10_ofHouse 11 = .ok (.iload_n 2, 1) := by decide +kernel
theorem dX10_ofHouse_12 : decode cX10_ofHouse 12 = .ok (.iadd, 1) := by decide +kernel
theorem dX10_ofHouse_13 : decode cX10_ofHouse 13 = .ok (.iaload, 1) := by decide +kernel
theorem dX10_ofHouse_14 : decode cX10_ofHouse 14 = .ok (.ireturn, 1) := by decide +kernel
theorem dX10_isHouse_0 : decode cX10_isHouse 0 = .ok (.iload_n 1, 1) := by decide +kernel
theorem dX10_isHouse_1 : decode cX10_isHouse 1 = .ok (.i2l, 1) := by decide +kernel
theorem dX10_isHouse_2 : decode cX10_isHouse 2 = .ok (.lconst 0, 1) := by decide +kernel
theorem dX10_isHouse_3 : decode cX10_isHouse 3 = .ok (.aload_n 0, 1) := by decide +kernel
theorem dX10_isHouse_4 : decode cX10_isHouse 4 = .ok (.getfield 13, 3) := by decide +kernel
theorem dX10_isHouse_7 : decode cX10_isHouse 7 = .ok (.iconst 0, 1) := by decide +kernel
theorem dX10_isHouse_8 : decode cX10_isHouse 8 = .ok (.iaload, 1) := by decide +kernel
theorem dX10_isHouse_9 : decode cX10_isHouse 9 = .ok (.iconst 1, 1) := by decide +kernel
theorem dX10_isHouse_10 : decode cX10_isHouse 10 = .ok (.isub, 1) := by decide +kernel
theorem dX10_isHouse_11 : decode cX10_isHouse 11 = .ok (.i2l, 1) := by decide +kernel
theorem dX10_isHouse_12 : decode cX10_isHouse 12 = .ok (.invokestatic 101, 3) := by decide +kernel
theorem dX10_isHouse_15 : decode cX10_isHouse 15 = .ok (.ireturn, 1) := by decide +kernel
theorem dX10_areTwo_0 : decode cX10_areTwo 0 = .ok (.aload_n 0, 1) := by decide +kernel
theorem dX10_areTwo_1 : decode cX10_areTwo 1 = .ok (.iload_n 1, 1) := by decide +kernel
theorem dX10_areTwo_2 : decode cX10_areTwo 2 = .ok (.invokevirtual 105, 3) := by decide +kernel
theorem dX10_areTwo_5 : decode cX10_areTwo 5 = .ok (.ifCond .eq 20, 3) := by decide +kernel
theorem dX10_areTwo_25 : decode cX10_areTwo 25 = .ok (.iconst 0, 1) := by decide +kernel
theorem dX10_areTwo_26 : decode cX10_areTwo 26 = .ok (.ireturn, 1) := by decide +kernel
theorem dX10_today_0 : decode cX10_today 0 = .ok (.aload_n 0, 1) := by decide +kernel
theorem dX10_today_1 : decode cX10_today 1 = .ok (.getfield 13, 3) := by decide +kernel
theorem dX10_today_4 : decode cX10_today 4 = .ok (.bipush 6, 2) := by decide +kernel
theorem dX10_today_6 : decode cX10_today 6 = .ok (.iaload, 1) := by decide +kernel
theorem dX10_today_7 : decode cX10_today 7 = .ok (.ireturn, 1) := by decide +kernel
theorem dX10_feed_0 : decode cX10_feed 0 = .ok (.aload_n 0, 1) := by decide +kernel
theorem dX10_feed_1 : decode cX10_feed 1 = .ok (.getfield 109, 3) := by decide +kernel
theorem dX10_feed_4 : decode cX10_feed 4 = .ok (.bipush 20, 2) := by decide +kernel
theorem dX10_feed_6 : decode cX10_feed 6 = .ok (.iadd, 1) := by decide +kernel
theorem dX10_feed_7 : decode cX10_feed 7 = .ok (.sipush 1400, 3) := by decide +kernel
theorem dX10_feed_10 : decode cX10_feed 10 = .ok (.if_icmp .le 5, 3) := by decide +kernel
theorem dX10_feed_15 : decode cX10_feed 15 = .ok (.aload_n 0, 1) := by decide +kernel
theorem dX10_feed_16 : decode cX10_feed 16 = .ok (.getfield 28, 3) := by decide +kernel
theorem dX10_feed_19 : decode cX10_feed 19 = .ok (.iconst 0, 1) := by decide +kernel
theorem dX10_feed_20 : decode cX10_feed 20 = .ok (.iload_n 1, 1) := by decide +kernel
theorem dX10_feed_21 : decode cX10_feed 21 = .ok (.iastore, 1) := by decide +kernel
theorem dX10_feed_22 : decode cX10_feed 22 = .ok (.aload_n 0, 1) := by decide +kernel
theorem dX10_feed_23 : decode cX10_feed 23 = .ok (.getfield 28, 3) := by decide +kernel
theorem dX10_feed_26 : decode cX10_feed 26 = .ok (.iconst 1, 1) := by decide +kernel
theorem dX10_feed_27 : decode cX10_feed 27 = .ok (.iload_n 2, 1) := by decide +kernel
theorem dX10_feed_28 : decode cX10_feed 28 = .ok (.iastore, 1) := by decide +kernel
theorem dX10_feed_29 : decode cX10_feed 29 = .ok (.aload_n 0, 1) := by decide +kernel
theorem dX10_feed_30 : decode cX10_feed 30 = .ok (.getfield 28, 3) := by decide +kernel
theorem dX10_feed_33 : decode cX10_feed 33 = .ok (.iconst 2, 1) := by decide +kernel
theorem dX10_feed_34 : decode cX10_feed 34 = .ok (.iload_n 3, 1) := by decide +kernel
theorem dX10_feed_35 : decode cX10_feed 35 = .ok (.iastore, 1) := by decide +kernel
theorem dX10_feed_36 : decode cX10_feed 36 = .ok (.aload_n 0, 1) := by decide +kernel
theorem dX10_feed_37 : decode cX10_feed 37 = .ok (.getfield 28, 3) := by decide +kernel
theorem dX10_feed_40 : decode cX10_feed 40 = .ok (.iconst 3, 1) := by decide +kernel
theorem dX10_feed_41 : decode cX10_feed 41 = .ok (.iload 4, 2) := by decide +kernel
theorem dX10_feed_43 : decode cX10_feed 43 = .ok (.iastore, 1) := by decide +kernel
theorem dX10_feed_44 : decode cX10_feed 44 = .ok (.aload_n 0, 1) := by decide +kernel
theorem dX10_feed_45 : decode cX10_feed 45 = .ok (.getfield 28, 3) := by decide +kernel
theorem dX10_feed_48 : decode cX10_feed 48 = .ok (.iconst 4, 1) := by decide +kernel
theorem dX10_feed_49 : decode cX10_feed 49 = .ok (.iload 5, 2) := by decide +kernel
theorem dX10_feed_51 : decode cX10_feed 51 = .ok (.iastore, 1) := by decide +kernel
theorem dX10_feed_52 : decode cX10_feed 52 = .ok (.iconst 0, 1) := by decide +kernel
theorem dX10_feed_53 : decode cX10_feed 53 = .ok (.istore 6, 2) := by decide +kernel
theorem dX10_feed_55 : decode cX10_feed 55 = .ok (.iload 6, 2) := by decide +kernel
theorem dX10_feed_57 : decode cX10_feed 57 = .ok (.bipush 20, 2) := by decide +kernel
theorem dX10_feed_59 : decode cX10_feed 59 = .ok (.if_icmp .ge 42, 3) := by decide +kernel
theorem dX10_feed_62 : decode cX10_feed 62 = .ok (.aload_n 0, 1) := by decide +kernel
theorem dX10_feed_63 : decode cX10_feed 63 = .ok (.getfield 24, 3) := by decide +kernel
theorem dX10_feed_66 : decode cX10_feed 66 = .ok (.aload_n 0, 1) := by decide +kernel
theorem dX10_feed_67 : decode cX10_feed 67 = .ok (.getfield 109, 3) := by decide +kernel
theorem dX10_feed_70 : decode cX10_feed 70 = .ok (.iload 6, 2) := by decide +kernel
theorem dX10_feed_72 : decode cX10_feed 72 = .ok (.iadd, 1) := by decide +kernel
theorem dX10_feed_73 : decode cX10_feed 73 = .ok (.aload_n 0, 1) := by decide +kernel
theorem dX10_feed_74 : decode cX10_feed 74 = .ok (.getfield 28, 3) := by decide +kernel
theorem dX10_feed_77 : decode cX10_feed 77 = .ok (.iload 6, 2) := by decide +kernel
theorem dX10_feed_79 : decode cX10_feed 79 = .ok (.iconst 4, 1) := by decide +kernel
theorem dX10_feed_80 : decode cX10_feed 80 = .ok (.idiv, 1) := by decide +kernel
theorem dX10_feed_81 : decode cX10_feed 81 = .ok (.iaload, 1) := by decide +kernel
theorem dX10_feed_82 : decode cX10_feed 82 = .ok (.bipush 24, 2) := by decide +kernel
theorem dX10_feed_84 : decode cX10_feed 84 = .ok (.bipush 8, 2) := by decide +kernel
theorem dX10_feed_86 : decode cX10_feed 86 = .ok (.iload 6, 2) := by decide +kernel
theorem dX10_feed_88 : decode cX10_feed 88 = .ok (.iconst 4, 1) := by decide +kernel
theorem dX10_feed_89 : decode cX10_feed 89 = .ok (.irem, 1) := by decide +kernel
theorem dX10_feed_90 : decode cX10_feed 90 = .ok (.imul, 1) := by decide +kernel
theorem dX10_feed_91 : decode cX10_feed 91 = .ok (.isub, 1) := by decide +kernel
theorem dX10_feed_92 : decode cX10_feed 92 = .ok (.ishr, 1) := by decide +kernel
theorem dX10_feed_93 : decode cX10_feed 93 = .ok (.i2b, 1) := by decide +kernel
theorem dX10_feed_94 : decode cX10_feed 94 = .ok (.bastore, 1) := by decide +kernel
theorem dX10_feed_95 : decode cX10_feed 95 = .ok (.iinc 6 1, 3) := by decide +kernel
theorem dX10_feed_98 : decode cX10_feed 98 = .ok (.goto (-43), 3) := by decide +kernel
theorem dX10_feed_101 : decode cX10_feed 101 = .ok (.aload_n 0, 1) := by decide +kernel
theorem dX10_feed_102 : decode cX10_feed 102 = .ok (.dup, 1) := by decide +kernel
theorem dX10_feed_103 : decode cX10_feed 103 = .ok (.getfield 109, 3) := by decide +kernel
theorem dX10_feed_106 : decode cX10_feed 106 = .ok (.bipush 20, 2) := by decide +kernel
theorem dX10_feed_108 : decode cX10_feed 108 = .ok (.iadd, 1) := by decide +kernel
theorem dX10_feed_109 : decode cX10_feed 109 = .ok (.putfield 109, 3) := by decide +kernel
theorem dX10_feed_112 : decode cX10_feed 112 = .ok (.aload_n 0, 1) := by decide +kernel
theorem dX10_feed_113 : decode cX10_feed 113 = .ok (.getfield 109, 3) := by decide +kernel
theorem dX10_feed_116 : decode cX10_feed 116 = .ok (.ireturn, 1) := by decide +kernel
theorem dX10_end_0 : decode cX10_end 0 = .ok (.iload_n 1, 1) := by decide +kernel
theorem dX10_end_1 : decode cX10_end 1 = .ok (.i2l, 1) := by decide +kernel
theorem dX10_end_2 : decode cX10_end 2 = .ok (.lconst 0, 1) := by decide +kernel
theorem dX10_end_3 : decode cX10_end 3 = .ok (.aload_n 0, 1) := by decide +kernel
theorem dX10_end_4 : decode cX10_end 4 = .ok (.getfield 109, 3) := by decide +kernel
theorem dX10_end_7 : decode cX10_end 7 = .ok (.i2l, 1) := by decide +kernel
theorem dX10_end_8 : decode cX10_end 8 = .ok (.invokestatic 101, 3) := by decide +kernel
theorem dX10_end_11 : decode cX10_end 11 = .ok (.ifCond .ne 5, 3) := by decide +kernel
theorem dX10_end_14 : decode cX10_end 14 = .ok (.iconst (-1), 1) := by decide +kernel
theorem dX10_end_15 : decode cX10_end 15 = .ok (.ireturn, 1) := by decide +kernel
theorem dX10_end_16 : decode cX10_end 16 = .ok (.aload_n 0, 1) := by decide +kernel
theorem dX10_end_17 : decode cX10_end 17 = .ok (.iload_n 1, 1) := by decide +kernel
theorem dX10_end_18 : decode cX10_end 18 = .ok (.putfield 109, 3) := by decide +kernel
theorem dX10_end_21 : decode cX10_end 21 = .ok (.iload_n 1, 1) := by decide +kernel
theorem dX10_end_22 : decode cX10_end 22 = .ok (.ireturn, 1) := by decide +kernel
theorem dX10_see_0 : decode cX10_see 0 = .ok (.iload_n 1, 1) := by decide +kernel
theorem dX10_see_1 : decode cX10_see 1 = .ok (.aload_n 0, 1) := by decide +kernel
theorem dX10_see_2 : decode cX10_see 2 = .ok (.getfield 112, 3) := by decide +kernel
theorem dX10_see_5 : decode cX10_see 5 = .ok (.if_icmp .ge 16, 3) := by decide +kernel
theorem dX10_see_21 : decode cX10_see 21 = .ok (.iconst (-1), 1) := by decide +kernel
theorem dX10_see_22 : decode cX10_see 22 = .ok (.ireturn, 1) := by decide +kernel
theorem dX10_advance_0 : decode cX10_advance 0 = .ok (.aload_n 0, 1) := by decide +kernel
theorem dX10_advance_1 : decode cX10_advance 1 = .ok (.aload_n 0, 1) := by decide +kernel
theorem dX10_advance_2 : decode cX10_advance 2 = .ok (.getfield 115, 3) := by decide +kernel
theorem dX10_advance_5 : decode cX10_advance 5 = .ok (.invokevirtual 118, 3) := by decide +kernel
theorem dX10_advance_8 : decode cX10_advance 8 = .ok (.bipush 32, 2) := by decide +kernel
theorem dX10_advance_10 : decode cX10_advance 10 = .ok (.if_icmp .eq 16, 3) := by decide +kernel
theorem dX10_advance_13 : decode cX10_advance 13 = .ok (.aload_n 0, 1) := by decide +kernel
theorem dX10_advance_14 : decode cX10_advance 14 = .ok (.aload_n 0, 1) := by decide +kernel
theorem dX10_advance_15 : decode cX10_advance 15 = .ok (.getfield 115, 3) := by decide +kernel
theorem dX10_advance_18 : decode cX10_advance 18 = .ok (.invokevirtual 118, 3) := by decide +kernel
theorem dX10_advance_21 : decode cX10_advance 21 = .ok (.bipush 10, 2) := by decide +kernel
theorem dX10_advance_23 : decode cX10_advance 23 = .ok (.if_icmp .ne 16, 3) := by decide +kernel
theorem dX10_advance_39 : decode cX10_advance 39 = .ok (.aload_n 0, 1) := by decide +kernel
theorem dX10_advance_40 : decode cX10_advance 40 = .ok (.aload_n 0, 1) := by decide +kernel
theorem dX10_advance_41 : decode cX10_advance 41 = .ok (.getfield 115, 3) := by decide +kernel
theorem dX10_advance_44 : decode cX10_advance 44 = .ok (.putfield 122, 3) := by decide +kernel
theorem dX10_advance_47 : decode cX10_advance 47 = .ok (.aload_n 0, 1) := by decide +kernel
theorem dX10_advance_48 : decode cX10_advance 48 = .ok (.aload_n 0, 1) := by decide +kernel
theorem dX10_advance_49 : decode cX10_advance 49 = .ok (.getfield 115, 3) := by decide +kernel
theorem dX10_advance_52 : decode cX10_advance 52 = .ok (.invokevirtual 118, 3) := by decide +kernel
theorem dX10_advance_55 : decode cX10_advance 55 = .ok (.istore_n 1, 1) := by decide +kernel
theorem dX10_advance_56 : decode cX10_advance 56 = .ok (.iload_n 1, 1) := by decide +kernel
theorem dX10_advance_57 : decode cX10_advance 57 = .ok (.iconst (-1), 1) := by decide +kernel
theorem dX10_advance_58 : decode cX10_advance 58 = .ok (.if_icmp .ne 11, 3) := by decide +kernel
theorem dX10_advance_61 : decode cX10_advance 61 = .ok (.aload_n 0, 1) := by decide +kernel
theorem dX10_advance_62 : decode cX10_advance 62 = .ok (.iconst 0, 1) := by decide +kernel
theorem dX10_advance_63 : decode cX10_advance 63 = .ok (.putfield 125, 3) := by decide +kernel
theorem dX10_advance_66 : decode cX10_advance 66 = .ok (.goto 174, 3) := by decide +kernel
theorem dX10_advance_240 : decode cX10_advance 240 = .ok (.return_, 1) := by decide +kernel
theorem dX10_good_0 : decode cX10_good 0 = .ok (.aload_n 0, 1) := by decide +kernel
theorem dX10_good_1 : decode cX10_good 1 = .ok (.getfield 145, 3) := by decide +kernel
theorem dX10_good_4 : decode cX10_good 4 = .ok (.ifCond .ne 7, 3) := by decide +kernel
theorem dX10_good_7 : decode cX10_good 7 = .ok (.iconst 1, 1) := by decide +kernel
theorem dX10_good_8 : decode cX10_good 8 = .ok (.goto 4, 3) := by decide +kernel
theorem dX10_good_12 : decode cX10_good 12 = .ok (.ireturn, 1) := by decide +kernel
theorem dX10_fault_0 : decode cX10_fault 0 = .ok (.iload_n 1, 1) := by decide +kernel
theorem dX10_fault_1 : decode cX10_fault 1 = .ok (.ifCond .ne 10, 3) := by decide +kernel
theorem dX10_fault_4 : decode cX10_fault 4 = .ok (.aload_n 0, 1) := by decide +kernel
theorem dX10_fault_5 : decode cX10_fault 5 = .ok (.getfield 145, 3) := by decide +kernel
theorem dX10_fault_8 : decode cX10_fault 8 = .ok (.goto 16, 3) := by decide +kernel
theorem dX10_fault_11 : decode cX10_fault 11 = .ok (.iload_n 1, 1) := by decide +kernel
theorem dX10_fault_12 : decode cX10_fault 12 = .ok (.iconst 1, 1) := by decide +kernel
theorem dX10_fault_13 : decode cX10_fault 13 = .ok (.if_icmp .ne 10, 3) := by decide +kernel
theorem dX10_fault_16 : decode cX10_fault 16 = .ok (.aload_n 0, 1) := by decide +kernel
theorem dX10_fault_17 : decode cX10_fault 17 = .ok (.getfield 31, 3) := by decide +kernel
theorem dX10_fault_20 : decode cX10_fault 20 = .ok (.goto 4, 3) := by decide +kernel
theorem dX10_fault_23 : decode cX10_fault 23 = .ok (.iconst (-1), 1) := by decide +kernel
theorem dX10_fault_24 : decode cX10_fault 24 = .ok (.ireturn, 1) := by decide +kernel
theorem dX10_town_0 : decode cX10_town 0 = .ok (.aload_n 0, 1) := by decide +kernel
theorem dX10_town_1 : decode cX10_town 1 = .ok (.aload_n 0, 1) := by decide +kernel
theorem dX10_town_2 : decode cX10_town 2 = .ok (.getfield 109, 3) := by decide +kernel
theorem dX10_town_5 : decode cX10_town 5 = .ok (.putfield 112, 3) := by decide +kernel
theorem dX10_town_8 : decode cX10_town 8 = .ok (.aload_n 0, 1) := by decide +kernel
theorem dX10_town_9 : decode cX10_town 9 = .ok (.iconst 0, 1) := by decide +kernel
theorem dX10_town_10 : decode cX10_town 10 = .ok (.putfield 109, 3) := by decide +kernel
theorem dX10_town_13 : decode cX10_town 13 = .ok (.aload_n 0, 1) := by decide +kernel
theorem dX10_town_14 : decode cX10_town 14 = .ok (.iconst 0, 1) := by decide +kernel
theorem dX10_town_15 : decode cX10_town 15 = .ok (.putfield 115, 3) := by decide +kernel
theorem dX10_town_18 : decode cX10_town 18 = .ok (.aload_n 0, 1) := by decide +kernel
theorem dX10_town_19 : decode cX10_town 19 = .ok (.iconst 0, 1) := by decide +kernel
theorem dX10_town_20 : decode cX10_town 20 = .ok (.putfield 145, 3) := by decide +kernel
theorem dX10_town_23 : decode cX10_town 23 = .ok (.aload_n 0, 1) := by decide +kernel
theorem dX10_town_24 : decode cX10_town 24 = .ok (.iconst (-1), 1) := by decide +kernel
theorem dX10_town_25 : decode cX10_town 25 = .ok (.putfield 31, 3) := by decide +kernel
theorem dX10_town_28 : decode cX10_town 28 = .ok (.iconst 0, 1) := by decide +kernel
theorem dX10_town_29 : decode cX10_town 29 = .ok (.istore_n 1, 1) := by decide +kernel
theorem dX10_town_30 : decode cX10_town 30 = .ok (.iload_n 1, 1) := by decide +kernel
theorem dX10_town_31 : decode cX10_town 31 = .ok (.sipush 9080, 3) := by decide +kernel
theorem dX10_town_34 : decode cX10_town 34 = .ok (.if_icmp .ge 16, 3) := by decide +kernel
theorem dX10_town_37 : decode cX10_town 37 = .ok (.aload_n 0, 1) := by decide +kernel
theorem dX10_town_38 : decode cX10_town 38 = .ok (.getfield 34, 3) := by decide +kernel
theorem dX10_town_41 : decode cX10_town 41 = .ok (.iload_n 1, 1) := by decide +kernel
theorem dX10_town_42 : decode cX10_town 42 = .ok (.iconst 0, 1) := by decide +kernel
theorem dX10_town_43 : decode cX10_town 43 = .ok (.iastore, 1) := by decide +kernel
theorem dX10_town_44 : decode cX10_town 44 = .ok (.iinc 1 1, 3) := by decide +kernel
theorem dX10_town_47 : decode cX10_town 47 = .ok (.goto (-17), 3) := by decide +kernel
theorem dX10_town_50 : decode cX10_town 50 = .ok (.aload_n 0, 1) := by decide +kernel
theorem dX10_town_51 : decode cX10_town 51 = .ok (.getfield 34, 3) := by decide +kernel
theorem dX10_town_54 : decode cX10_town 54 = .ok (.iconst 5, 1) := by decide +kernel
theorem dX10_town_55 : decode cX10_town 55 = .ok (.iconst 3, 1) := by decide +kernel
theorem dX10_town_56 : decode cX10_town 56 = .ok (.iastore, 1) := by decide +kernel
theorem dX10_town_57 : decode cX10_town 57 = .ok (.aload_n 0, 1) := by decide +kernel
theorem dX10_town_58 : decode cX10_town 58 = .ok (.invokevirtual 166, 3) := by decide +kernel
theorem dX10_town_61 : decode cX10_town 61 = .ok (.aload_n 0, 1) := by decide +kernel
theorem dX10_town_62 : decode cX10_town 62 = .ok (.invokevirtual 148, 3) := by decide +kernel
theorem dX10_town_65 : decode cX10_town 65 = .ok (.ifCond .eq 17, 3) := by decide +kernel
theorem dX10_town_68 : decode cX10_town 68 = .ok (.aload_n 0, 1) := by decide +kernel
theorem dX10_town_69 : decode cX10_town 69 = .ok (.getfield 125, 3) := by decide +kernel
theorem dX10_town_72 : decode cX10_town 72 = .ok (.ifCond .eq 10, 3) := by decide +kernel
theorem dX10_town_82 : decode cX10_town 82 = .ok (.aload_n 0, 1) := by decide +kernel
theorem dX10_town_83 : decode cX10_town 83 = .ok (.invokevirtual 148, 3) := by decide +kernel
theorem dX10_town_86 : decode cX10_town 86 = .ok (.ifCond .ne 6, 3) := by decide +kernel
theorem dX10_town_92 : decode cX10_town 92 = .ok (.iconst 0, 1) := by decide +kernel
theorem dX10_town_93 : decode cX10_town 93 = .ok (.istore_n 1, 1) := by decide +kernel
theorem dX10_town_94 : decode cX10_town 94 = .ok (.iload_n 1, 1) := by decide +kernel
theorem dX10_town_95 : decode cX10_town 95 = .ok (.sipush 9080, 3) := by decide +kernel
theorem dX10_town_98 : decode cX10_town 98 = .ok (.if_icmp .ge 21, 3) := by decide +kernel
theorem dX10_town_101 : decode cX10_town 101 = .ok (.aload_n 0, 1) := by decide +kernel
theorem dX10_town_102 : decode cX10_town 102 = .ok (.getfield 13, 3) := by decide +kernel
theorem dX10_town_105 : decode cX10_town 105 = .ok (.iload_n 1, 1) := by decide +kernel
theorem dX10_town_106 : decode cX10_town 106 = .ok (.aload_n 0, 1) := by decide +kernel
theorem dX10_town_107 : decode cX10_town 107 = .ok (.getfield 34, 3) := by decide +kernel
theorem dX10_town_110 : decode cX10_town 110 = .ok (.iload_n 1, 1) := by decide +kernel
theorem dX10_town_111 : decode cX10_town 111 = .ok (.iaload, 1) := by decide +kernel
theorem dX10_town_112 : decode cX10_town 112 = .ok (.iastore, 1) := by decide +kernel
theorem dX10_town_113 : decode cX10_town 113 = .ok (.iinc 1 1, 3) := by decide +kernel
theorem dX10_town_116 : decode cX10_town 116 = .ok (.goto (-22), 3) := by decide +kernel
theorem dX10_town_119 : decode cX10_town 119 = .ok (.iconst 0, 1) := by decide +kernel
theorem dX10_town_120 : decode cX10_town 120 = .ok (.istore_n 1, 1) := by decide +kernel
theorem dX10_town_121 : decode cX10_town 121 = .ok (.iload_n 1, 1) := by decide +kernel
theorem dX10_town_122 : decode cX10_town 122 = .ok (.bipush 16, 2) := by decide +kernel
theorem dX10_town_124 : decode cX10_town 124 = .ok (.if_icmp .ge 26, 3) := by decide +kernel
theorem dX10_town_127 : decode cX10_town 127 = .ok (.aload_n 0, 1) := by decide +kernel
theorem dX10_town_128 : decode cX10_town 128 = .ok (.getfield 13, 3) := by decide +kernel
theorem dX10_town_131 : decode cX10_town 131 = .ok (.sipush 1864, 3) := by decide +kernel
theorem dX10_town_134 : decode cX10_town 134 = .ok (.iload_n 1, 1) := by decide +kernel
theorem dX10_town_135 : decode cX10_town 135 = .ok (.iadd, 1) := by decide +kernel
theorem dX10_town_136 : decode cX10_town 136 = .ok (.aload_n 0, 1) := by decide +kernel
theorem dX10_town_137 : decode cX10_town 137 = .ok (.iload_n 1, 1) := by decide +kernel
theorem dX10_town_138 : decode cX10_town 138 = .ok (.bipush 8, 2) := by decide +kernel
theorem dX10_town_140 : decode cX10_town 140 = .ok (.invokevirtual 286, 3) := by decide +kernel
theorem dX10_town_143 : decode cX10_town 143 = .ok (.iastore, 1) := by decide +kernel
theorem dX10_town_144 : decode cX10_town 144 = .ok (.iinc 1 1, 3) := by decide +kernel
theorem dX10_town_147 : decode cX10_town 147 = .ok (.goto (-26), 3) := by decide +kernel
theorem dX10_town_150 : decode cX10_town 150 = .ok (.aload_n 0, 1) := by decide +kernel
theorem dX10_town_151 : decode cX10_town 151 = .ok (.getfield 13, 3) := by decide +kernel
theorem dX10_town_154 : decode cX10_town 154 = .ok (.iconst 0, 1) := by decide +kernel
theorem dX10_town_155 : decode cX10_town 155 = .ok (.iaload, 1) := by decide +kernel
theorem dX10_town_156 : decode cX10_town 156 = .ok (.ireturn, 1) := by decide +kernel
theorem dX10_days_0 : decode cX10_days 0 = .ok (.iload_n 1, 1) := by decide +kernel
theorem dX10_days_1 : decode cX10_days 1 = .ok (.i2l, 1) := by decide +kernel
theorem dX10_days_2 : decode cX10_days 2 = .ok (.lconst 0, 1) := by decide +kernel
theorem dX10_days_3 : decode cX10_days 3 = .ok (.ldc2_w 289, 3) := by decide +kernel
theorem dX10_days_6 : decode cX10_days 6 = .ok (.invokestatic 101, 3) := by decide +kernel
theorem dX10_days_9 : decode cX10_days 9 = .ok (.ifCond .eq 15, 3) := by decide +kernel
theorem dX10_days_12 : decode cX10_days 12 = .ok (.aload_n 0, 1) := by decide +kernel
theorem dX10_days_13 : decode cX10_days 13 = .ok (.invokevirtual 291, 3) := by decide +kernel
theorem dX10_days_16 : decode cX10_days 16 = .ok (.iload_n 1, 1) := by decide +kernel
theorem dX10_days_17 : decode cX10_days 17 = .ok (.iadd, 1) := by decide +kernel
theorem dX10_days_18 : decode cX10_days 18 = .ok (.sipush 399, 3) := by decide +kernel
theorem dX10_days_21 : decode cX10_days 21 = .ok (.if_icmp .le 6, 3) := by decide +kernel
theorem dX10_days_24 : decode cX10_days 24 = .ok (.bipush (-2), 2) := by decide +kernel
theorem dX10_days_26 : decode cX10_days 26 = .ok (.ireturn, 1) := by decide +kernel
theorem dX10_days_27 : decode cX10_days 27 = .ok (.aload_n 0, 1) := by decide +kernel
theorem dX10_days_28 : decode cX10_days 28 = .ok (.getfield 13, 3) := by decide +kernel
theorem dX10_days_31 : decode cX10_days 31 = .ok (.bipush 6, 2) := by decide +kernel
theorem dX10_days_33 : decode cX10_days 33 = .ok (.dup2, 1) := by decide +kernel
theorem dX10_days_34 : decode cX10_days 34 = .ok (.iaload, 1) := by decide +kernel
theorem dX10_days_35 : decode cX10_days 35 = .ok (.iload_n 1, 1) := by decide +kernel
theorem dX10_days_36 : decode cX10_days 36 = .ok (.iadd, 1) := by decide +kernel
theorem dX10_days_37 : decode cX10_days 37 = .ok (.iastore, 1) := by decide +kernel
theorem dX10_days_38 : decode cX10_days 38 = .ok (.aload_n 0, 1) := by decide +kernel
theorem dX10_days_39 : decode cX10_days 39 = .ok (.invokevirtual 291, 3) := by decide +kernel
theorem dX10_days_42 : decode cX10_days 42 = .ok (.ireturn, 1) := by decide +kernel
theorem dX10_bars_0 : decode cX10_bars 0 = .ok (.aload_n 0, 1) := by decide +kernel
theorem dX10_bars_1 : decode cX10_bars 1 = .ok (.iload_n 1, 1) := by decide +kernel
theorem dX10_bars_2 : decode cX10_bars 2 = .ok (.iload_n 2, 1) := by decide +kernel
theorem dX10_bars_3 : decode cX10_bars 3 = .ok (.invokevirtual 315, 3) := by decide +kernel
theorem dX10_bars_6 : decode cX10_bars 6 = .ok (.ifCond .eq 20, 3) := by decide +kernel
theorem dX10_bars_26 : decode cX10_bars 26 = .ok (.bipush (-2), 2) := by decide +kernel
theorem dX10_bars_28 : decode cX10_bars 28 = .ok (.ireturn, 1) := by decide +kernel
theorem dX10_known_0 : decode cX10_known 0 = .ok (.aload_n 0, 1) := by decide +kernel
theorem dX10_known_1 : decode cX10_known 1 = .ok (.iload_n 1, 1) := by decide +kernel
theorem dX10_known_2 : decode cX10_known 2 = .ok (.iload_n 2, 1) := by decide +kernel
theorem dX10_known_3 : decode cX10_known 3 = .ok (.invokevirtual 315, 3) := by decide +kernel
theorem dX10_known_6 : decode cX10_known 6 = .ok (.ifCond .ne 8, 3) := by decide +kernel
theorem dX10_known_9 : decode cX10_known 9 = .ok (.bipush (-2), 2) := by decide +kernel
theorem dX10_known_11 : decode cX10_known 11 = .ok (.goto 17, 3) := by decide +kernel
theorem dX10_known_28 : decode cX10_known 28 = .ok (.ireturn, 1) := by decide +kernel
theorem dX10_does_0 : decode cX10_does 0 = .ok (.aload_n 0, 1) := by decide +kernel
theorem dX10_does_1 : decode cX10_does 1 = .ok (.iload_n 1, 1) := by decide +kernel
theorem dX10_does_2 : decode cX10_does 2 = .ok (.iload_n 2, 1) := by decide +kernel
theorem dX10_does_3 : decode cX10_does 3 = .ok (.invokevirtual 315, 3) := by decide +kernel
theorem dX10_does_6 : decode cX10_does 6 = .ok (.ifCond .eq 10, 3) := by decide +kernel
theorem dX10_does_16 : decode cX10_does 16 = .ok (.bipush (-2), 2) := by decide +kernel
theorem dX10_does_18 : decode cX10_does 18 = .ok (.ireturn, 1) := by decide +kernel
theorem dX10_meet_0 : decode cX10_meet 0 = .ok (.aload_n 0, 1) := by decide +kernel
theorem dX10_meet_1 : decode cX10_meet 1 = .ok (.iload_n 1, 1) := by decide +kernel
theorem dX10_meet_2 : decode cX10_meet 2 = .ok (.iload_n 2, 1) := by decide +kernel
theorem dX10_meet_3 : decode cX10_meet 3 = .ok (.invokevirtual 315, 3) := by decide +kernel
theorem dX10_meet_6 : decode cX10_meet 6 = .ok (.ifCond .ne 6, 3) := by decide +kernel
theorem dX10_meet_9 : decode cX10_meet 9 = .ok (.bipush (-2), 2) := by decide +kernel
theorem dX10_meet_11 : decode cX10_meet 11 = .ok (.ireturn, 1) := by decide +kernel
theorem dX10_done_0 : decode cX10_done 0 = .ok (.iload_n 1, 1) := by decide +kernel
theorem dX10_done_1 : decode cX10_done 1 = .ok (.invokestatic 371, 3) := by decide +kernel
theorem dX10_done_4 : decode cX10_done 4 = .ok (.ifCond .ne 6, 3) := by decide +kernel
theorem dX10_done_7 : decode cX10_done 7 = .ok (.bipush (-2), 2) := by decide +kernel
theorem dX10_done_9 : decode cX10_done 9 = .ok (.ireturn, 1) := by decide +kernel
theorem dX10_done_10 : decode cX10_done 10 = .ok (.aload_n 0, 1) := by decide +kernel
theorem dX10_done_11 : decode cX10_done 11 = .ok (.getfield 86, 3) := by decide +kernel
theorem dX10_done_14 : decode cX10_done 14 = .ok (.iload_n 1, 1) := by decide +kernel
theorem dX10_done_15 : decode cX10_done 15 = .ok (.iaload, 1) := by decide +kernel
theorem dX10_done_16 : decode cX10_done 16 = .ok (.iconst (-1), 1) := by decide +kernel
theorem dX10_done_17 : decode cX10_done 17 = .ok (.if_icmp .ne 6, 3) := by decide +kernel
theorem dX10_done_20 : decode cX10_done 20 = .ok (.bipush (-6), 2) := by decide +kernel
theorem dX10_done_22 : decode cX10_done 22 = .ok (.ireturn, 1) := by decide +kernel
theorem dX10_debts_0 : decode cX10_debts 0 = .ok (.aload_n 0, 1) := by decide +kernel
theorem dX10_debts_1 : decode cX10_debts 1 = .ok (.iload_n 1, 1) := by decide +kernel
theorem dX10_debts_2 : decode cX10_debts 2 = .ok (.invokevirtual 105, 3) := by decide +kernel
theorem dX10_debts_5 : decode cX10_debts 5 = .ok (.ifCond .eq 11, 3) := by decide +kernel
theorem dX10_debts_16 : decode cX10_debts 16 = .ok (.bipush (-2), 2) := by decide +kernel
theorem dX10_debts_18 : decode cX10_debts 18 = .ok (.ireturn, 1) := by decide +kernel
theorem dX10_debt_0 : decode cX10_debt 0 = .ok (.aload_n 0, 1) := by decide +kernel
theorem dX10_debt_1 : decode cX10_debt 1 = .ok (.iload_n 1, 1) := by decide +kernel
theorem dX10_debt_2 : decode cX10_debt 2 = .ok (.invokevirtual 105, 3) := by decide +kernel
theorem dX10_debt_5 : decode cX10_debt 5 = .ok (.ifCond .eq 19, 3) := by decide +kernel
theorem dX10_debt_24 : decode cX10_debt 24 = .ok (.iconst (-1), 1) := by decide +kernel
theorem dX10_debt_25 : decode cX10_debt 25 = .ok (.ireturn, 1) := by decide +kernel
theorem dX10_slights_0 : decode cX10_slights 0 = .ok (.aload_n 0, 1) := by decide +kernel
theorem dX10_slights_1 : decode cX10_slights 1 = .ok (.iload_n 1, 1) := by decide +kernel
theorem dX10_slights_2 : decode cX10_slights 2 = .ok (.invokevirtual 105, 3) := by decide +kernel
theorem dX10_slights_5 : decode cX10_slights 5 = .ok (.ifCond .eq 11, 3) := by decide +kernel
theorem dX10_slights_16 : decode cX10_slights 16 = .ok (.bipush (-2), 2) := by decide +kernel
theorem dX10_slights_18 : decode cX10_slights 18 = .ok (.ireturn, 1) := by decide +kernel
theorem dX10_first_0 : decode cX10_first 0 = .ok (.iconst (-1), 1) := by decide +kernel
theorem dX10_first_1 : decode cX10_first 1 = .ok (.istore_n 1, 1) := by decide +kernel
theorem dX10_first_2 : decode cX10_first 2 = .ok (.iconst 0, 1) := by decide +kernel
theorem dX10_first_3 : decode cX10_first 3 = .ok (.istore_n 2, 1) := by decide +kernel
theorem dX10_first_4 : decode cX10_first 4 = .ok (.iconst 0, 1) := by decide +kernel
theorem dX10_first_5 : decode cX10_first 5 = .ok (.istore_n 3, 1) := by decide +kernel
theorem dX10_first_6 : decode cX10_first 6 = .ok (.iload_n 3, 1) := by decide +kernel
theorem dX10_first_7 : decode cX10_first 7 = .ok (.aload_n 0, 1) := by decide +kernel
theorem dX10_first_8 : decode cX10_first 8 = .ok (.getfield 13, 3) := by decide +kernel
theorem dX10_first_11 : decode cX10_first 11 = .ok (.iconst 0, 1) := by decide +kernel
theorem dX10_first_12 : decode cX10_first 12 = .ok (.iaload, 1) := by decide +kernel
theorem dX10_first_13 : decode cX10_first 13 = .ok (.if_icmp .ge 56, 3) := by decide +kernel
theorem dX10_first_69 : decode cX10_first 69 = .ok (.iload_n 1, 1) := by decide +kernel
theorem dX10_first_70 : decode cX10_first 70 = .ok (.ireturn, 1) := by decide +kernel
theorem dX10_owes_0 : decode cX10_owes 0 = .ok (.aload_n 0, 1) := by decide +kernel
theorem dX10_owes_1 : decode cX10_owes 1 = .ok (.iload_n 1, 1) := by decide +kernel
theorem dX10_owes_2 : decode cX10_owes 2 = .ok (.iload_n 2, 1) := by decide +kernel
theorem dX10_owes_3 : decode cX10_owes 3 = .ok (.invokevirtual 315, 3) := by decide +kernel
theorem dX10_owes_6 : decode cX10_owes 6 = .ok (.ifCond .eq 10, 3) := by decide +kernel
theorem dX10_owes_16 : decode cX10_owes 16 = .ok (.bipush (-2), 2) := by decide +kernel
theorem dX10_owes_18 : decode cX10_owes 18 = .ok (.ireturn, 1) := by decide +kernel
theorem dX10_isRound_0 : decode cX10_isRound 0 = .ok (.aload_n 0, 1) := by decide +kernel
theorem dX10_isRound_1 : decode cX10_isRound 1 = .ok (.iload_n 1, 1) := by decide +kernel
theorem dX10_isRound_2 : decode cX10_isRound 2 = .ok (.invokevirtual 105, 3) := by decide +kernel
theorem dX10_isRound_5 : decode cX10_isRound 5 = .ok (.ifCond .eq 23, 3) := by decide +kernel
theorem dX10_isRound_28 : decode cX10_isRound 28 = .ok (.iconst 0, 1) := by decide +kernel
theorem dX10_isRound_29 : decode cX10_isRound 29 = .ok (.ireturn, 1) := by decide +kernel
theorem dX10_worth_0 : decode cX10_worth 0 = .ok (.aload_n 0, 1) := by decide +kernel
theorem dX10_worth_1 : decode cX10_worth 1 = .ok (.iload_n 1, 1) := by decide +kernel
theorem dX10_worth_2 : decode cX10_worth 2 = .ok (.iload_n 2, 1) := by decide +kernel
theorem dX10_worth_3 : decode cX10_worth 3 = .ok (.invokevirtual 429, 3) := by decide +kernel
theorem dX10_worth_6 : decode cX10_worth 6 = .ok (.ifCond .ne 6, 3) := by decide +kernel
theorem dX10_worth_9 : decode cX10_worth 9 = .ok (.bipush (-2), 2) := by decide +kernel
theorem dX10_worth_11 : decode cX10_worth 11 = .ok (.ireturn, 1) := by decide +kernel
theorem dX10_over_0 : decode cX10_over 0 = .ok (.aload_n 0, 1) := by decide +kernel
theorem dX10_over_1 : decode cX10_over 1 = .ok (.iload_n 1, 1) := by decide +kernel
theorem dX10_over_2 : decode cX10_over 2 = .ok (.iload_n 2, 1) := by decide +kernel
theorem dX10_over_3 : decode cX10_over 3 = .ok (.invokevirtual 429, 3) := by decide +kernel
theorem dX10_over_6 : decode cX10_over 6 = .ok (.ifCond .ne 6, 3) := by decide +kernel
theorem dX10_over_9 : decode cX10_over 9 = .ok (.bipush (-2), 2) := by decide +kernel
theorem dX10_over_11 : decode cX10_over 11 = .ok (.ireturn, 1) := by decide +kernel
theorem dX10_round_0 : decode cX10_round 0 = .ok (.aload_n 0, 1) := by decide +kernel
theorem dX10_round_1 : decode cX10_round 1 = .ok (.iload_n 1, 1) := by decide +kernel
theorem dX10_round_2 : decode cX10_round 2 = .ok (.iload_n 2, 1) := by decide +kernel
theorem dX10_round_3 : decode cX10_round 3 = .ok (.invokevirtual 429, 3) := by decide +kernel
theorem dX10_round_6 : decode cX10_round 6 = .ok (.ifCond .ne 6, 3) := by decide +kernel
theorem dX10_round_9 : decode cX10_round 9 = .ok (.bipush (-2), 2) := by decide +kernel
theorem dX10_round_11 : decode cX10_round 11 = .ok (.ireturn, 1) := by decide +kernel
theorem dX10_may_0 : decode cX10_may 0 = .ok (.iload_n 1, 1) := by decide +kernel
theorem dX10_may_1 : decode cX10_may 1 = .ok (.invokestatic 371, 3) := by decide +kernel
theorem dX10_may_4 : decode cX10_may 4 = .ok (.ifCond .eq 12, 3) := by decide +kernel
theorem dX10_may_7 : decode cX10_may 7 = .ok (.aload_n 0, 1) := by decide +kernel
theorem dX10_may_8 : decode cX10_may 8 = .ok (.iload_n 2, 1) := by decide +kernel
theorem dX10_may_9 : decode cX10_may 9 = .ok (.iload_n 3, 1) := by decide +kernel
