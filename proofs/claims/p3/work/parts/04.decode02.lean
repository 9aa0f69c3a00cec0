theorem dX2_add_21 : decode cX2_add 21 = .ok (.getfield 15, 3) := by decide +kernel
theorem dX2_add_24 : decode cX2_add 24 = .ok (.aload_n 0, 1) := by decide +kernel
theorem dX2_add_25 : decode cX2_add 25 = .ok (.getfield 24, 3) := by decide +kernel
theorem dX2_add_28 : decode cX2_add 28 = .ok (.iload_n 2, 1) := by decide +kernel
theorem dX2_add_29 : decode cX2_add 29 = .ok (.iastore, 1) := by decide +kernel
theorem dX2_add_30 : decode cX2_add 30 = .ok (.aload_n 0, 1) := by decide +kernel
theorem dX2_add_31 : decode cX2_add 31 = .ok (.getfield 18, 3) := by decide +kernel
theorem dX2_add_34 : decode cX2_add 34 = .ok (.aload_n 0, 1) := by decide +kernel
theorem dX2_add_35 : decode cX2_add 35 = .ok (.getfield 24, 3) := by decide +kernel
theorem dX2_add_38 : decode cX2_add 38 = .ok (.iload_n 3, 1) := by decide +kernel
theorem dX2_add_39 : decode cX2_add 39 = .ok (.iastore, 1) := by decide +kernel
theorem dX2_add_40 : decode cX2_add 40 = .ok (.aload_n 0, 1) := by decide +kernel
theorem dX2_add_41 : decode cX2_add 41 = .ok (.getfield 21, 3) := by decide +kernel
theorem dX2_add_44 : decode cX2_add 44 = .ok (.aload_n 0, 1) := by decide +kernel
theorem dX2_add_45 : decode cX2_add 45 = .ok (.getfield 24, 3) := by decide +kernel
theorem dX2_add_48 : decode cX2_add 48 = .ok (.iload 4, 2) := by decide +kernel
theorem dX2_add_50 : decode cX2_add 50 = .ok (.iastore, 1) := by decide +kernel
theorem dX2_add_51 : decode cX2_add 51 = .ok (.aload_n 0, 1) := by decide +kernel
theorem dX2_add_52 : decode cX2_add 52 = .ok (.dup, 1) := by decide +kernel
theorem dX2_add_53 : decode cX2_add 53 = .ok (.getfield 24, 3) := by decide +kernel
theorem dX2_add_56 : decode cX2_add 56 = .ok (.iconst 1, 1) := by decide +kernel
theorem dX2_add_57 : decode cX2_add 57 = .ok (.iadd, 1) := by decide +kernel
theorem dX2_add_58 : decode cX2_add 58 = .ok (.putfield 24, 3) := by decide +kernel
theorem dX2_add_61 : decode cX2_add 61 = .ok (.return_, 1) := by decide +kernel
theorem dX2_callsBy_0 : decode cX2_callsBy 0 = .ok (.iconst 0, 1) := by decide +kernel
theorem dX2_callsBy_1 : decode cX2_callsBy 1 = .ok (.istore_n 2, 1) := by decide +kernel
theorem dX2_callsBy_2 : decode cX2_callsBy 2 = .ok (.iconst 0, 1) := by decide +kernel
theorem dX2_callsBy_3 : decode cX2_callsBy 3 = .ok (.istore_n 3, 1) := by decide +kernel
theorem dX2_callsBy_4 : decode cX2_callsBy 4 = .ok (.iload_n 3, 1) := by decide +kernel
theorem dX2_callsBy_5 : decode cX2_callsBy 5 = .ok (.aload_n 0, 1) := by decide +kernel
theorem dX2_callsBy_6 : decode cX2_callsBy 6 = .ok (.getfield 24, 3) := by decide +kernel
theorem dX2_callsBy_9 : decode cX2_callsBy 9 = .ok (.if_icmp .ge 32, 3) := by decide +kernel
theorem dX2_callsBy_12 : decode cX2_callsBy 12 = .ok (.aload_n 0, 1) := by decide +kernel
theorem dX2_callsBy_13 : decode cX2_callsBy 13 = .ok (.getfield 18, 3) := by decide +kernel
theorem dX2_callsBy_16 : decode cX2_callsBy 16 = .ok (.iload_n 3, 1) := by decide +kernel
theorem dX2_callsBy_17 : decode cX2_callsBy 17 = .ok (.iaload, 1) := by decide +kernel
theorem dX2_callsBy_18 : decode cX2_callsBy 18 = .ok (.iconst 2, 1) := by decide +kernel
theorem dX2_callsBy_19 : decode cX2_callsBy 19 = .ok (.if_icmp .ne 16, 3) := by decide +kernel
theorem dX2_callsBy_22 : decode cX2_callsBy 22 = .ok (.aload_n 0, 1) := by decide +kernel
theorem dX2_callsBy_23 : decode cX2_callsBy 23 = .ok (.getfield 9, 3) := by decide +kernel
theorem dX2_callsBy_26 : decode cX2_callsBy 26 = .ok (.iload_n 3, 1) := by decide +kernel
theorem dX2_callsBy_27 : decode cX2_callsBy 27 = .ok (.iaload, 1) := by decide +kernel
theorem dX2_callsBy_28 : decode cX2_callsBy 28 = .ok (.iload_n 1, 1) := by decide +kernel
theorem dX2_callsBy_29 : decode cX2_callsBy 29 = .ok (.if_icmp .ne 6, 3) := by decide +kernel
theorem dX2_callsBy_32 : decode cX2_callsBy 32 = .ok (.iinc 2 1, 3) := by decide +kernel
theorem dX2_callsBy_35 : decode cX2_callsBy 35 = .ok (.iinc 3 1, 3) := by decide +kernel
theorem dX2_callsBy_38 : decode cX2_callsBy 38 = .ok (.goto (-34), 3) := by decide +kernel
theorem dX2_callsBy_41 : decode cX2_callsBy 41 = .ok (.iload_n 2, 1) := by decide +kernel
theorem dX2_callsBy_42 : decode cX2_callsBy 42 = .ok (.ireturn, 1) := by decide +kernel
theorem dX2_callsTo_0 : decode cX2_callsTo 0 = .ok (.iconst 0, 1) := by decide +kernel
theorem dX2_callsTo_1 : decode cX2_callsTo 1 = .ok (.istore_n 2, 1) := by decide +kernel
theorem dX2_callsTo_2 : decode cX2_callsTo 2 = .ok (.iconst 0, 1) := by decide +kernel
theorem dX2_callsTo_3 : decode cX2_callsTo 3 = .ok (.istore_n 3, 1) := by decide +kernel
theorem dX2_callsTo_4 : decode cX2_callsTo 4 = .ok (.iload_n 3, 1) := by decide +kernel
theorem dX2_callsTo_5 : decode cX2_callsTo 5 = .ok (.aload_n 0, 1) := by decide +kernel
theorem dX2_callsTo_6 : decode cX2_callsTo 6 = .ok (.getfield 24, 3) := by decide +kernel
theorem dX2_callsTo_9 : decode cX2_callsTo 9 = .ok (.if_icmp .ge 32, 3) := by decide +kernel
theorem dX2_callsTo_12 : decode cX2_callsTo 12 = .ok (.aload_n 0, 1) := by decide +kernel
theorem dX2_callsTo_13 : decode cX2_callsTo 13 = .ok (.getfield 18, 3) := by decide +kernel
theorem dX2_callsTo_16 : decode cX2_callsTo 16 = .ok (.iload_n 3, 1) := by decide +kernel
theorem dX2_callsTo_17 : decode cX2_callsTo 17 = .ok (.iaload, 1) := by decide +kernel
theorem dX2_callsTo_18 : decode cX2_callsTo 18 = .ok (.iconst 2, 1) := by decide +kernel
theorem dX2_callsTo_19 : decode cX2_callsTo 19 = .ok (.if_icmp .ne 16, 3) := by decide +kernel
theorem dX2_callsTo_22 : decode cX2_callsTo 22 = .ok (.aload_n 0, 1) := by decide +kernel
theorem dX2_callsTo_23 : decode cX2_callsTo 23 = .ok (.getfield 15, 3) := by decide +kernel
theorem dX2_callsTo_26 : decode cX2_callsTo 26 = .ok (.iload_n 3, 1) := by decide +kernel
theorem dX2_callsTo_27 : decode cX2_callsTo 27 = .ok (.iaload, 1) := by decide +kernel
theorem dX2_callsTo_28 : decode cX2_callsTo 28 = .ok (.iload_n 1, 1) := by decide +kernel
theorem dX2_callsTo_29 : decode cX2_callsTo 29 = .ok (.if_icmp .ne 6, 3) := by decide +kernel
theorem dX2_callsTo_32 : decode cX2_callsTo 32 = .ok (.iinc 2 1, 3) := by decide +kernel
theorem dX2_callsTo_35 : decode cX2_callsTo 35 = .ok (.iinc 3 1, 3) := by decide +kernel
theorem dX2_callsTo_38 : decode cX2_callsTo 38 = .ok (.goto (-34), 3) := by decide +kernel
theorem dX2_callsTo_41 : decode cX2_callsTo 41 = .ok (.iload_n 2, 1) := by decide +kernel
theorem dX2_callsTo_42 : decode cX2_callsTo 42 = .ok (.ireturn, 1) := by decide +kernel
theorem dX3_init_0 : decode cX3_init 0 = .ok (.aload_n 0, 1) := by decide +kernel
theorem dX3_init_1 : decode cX3_init 1 = .ok (.invokespecial 3, 3) := by decide +kernel
theorem dX3_init_4 : decode cX3_init 4 = .ok (.aload_n 0, 1) := by decide +kernel
theorem dX3_init_5 : decode cX3_init 5 = .ok (.new 9, 3) := by decide +kernel
theorem dX3_init_8 : decode cX3_init 8 = .ok (.dup, 1) := by decide +kernel
theorem dX3_init_9 : decode cX3_init 9 = .ok (.invokespecial 11, 3) := by decide +kernel
theorem dX3_init_12 : decode cX3_init 12 = .ok (.putfield 12, 3) := by decide +kernel
theorem dX3_init_15 : decode cX3_init 15 = .ok (.aload_n 0, 1) := by decide +kernel
theorem dX3_init_16 : decode cX3_init 16 = .ok (.new 18, 3) := by decide +kernel
theorem dX3_init_19 : decode cX3_init 19 = .ok (.dup, 1) := by decide +kernel
theorem dX3_init_20 : decode cX3_init 20 = .ok (.invokespecial 20, 3) := by decide +kernel
theorem dX3_init_23 : decode cX3_init 23 = .ok (.putfield 21, 3) := by decide +kernel
theorem dX3_init_26 : decode cX3_init 26 = .ok (.aload_n 0, 1) := by decide +kernel
theorem dX3_init_27 : decode cX3_init 27 = .ok (.iconst (-1), 1) := by decide +kernel
theorem dX3_init_28 : decode cX3_init 28 = .ok (.putfield 25, 3) := by decide +kernel
theorem dX3_init_31 : decode cX3_init 31 = .ok (.return_, 1) := by decide +kernel
theorem dX3_read_0 : decode cX3_read 0 = .ok (.aload_n 0, 1) := by decide +kernel
theorem dX3_read_1 : decode cX3_read 1 = .ok (.aload_n 1, 1) := by decide +kernel
theorem dX3_read_2 : decode cX3_read 2 = .ok (.putfield 29, 3) := by decide +kernel
theorem dX3_read_5 : decode cX3_read 5 = .ok (.aload_n 0, 1) := by decide +kernel
theorem dX3_read_6 : decode cX3_read 6 = .ok (.iload_n 2, 1) := by decide +kernel
theorem dX3_read_7 : decode cX3_read 7 = .ok (.aload_n 1, 1) := by decide +kernel
theorem dX3_read_8 : decode cX3_read 8 = .ok (.arraylength, 1) := by decide +kernel
theorem dX3_read_9 : decode cX3_read 9 = .ok (.invokestatic 33, 3) := by decide +kernel
theorem dX3_read_12 : decode cX3_read 12 = .ok (.putfield 39, 3) := by decide +kernel
theorem dX3_read_15 : decode cX3_read 15 = .ok (.aload_n 0, 1) := by decide +kernel
theorem dX3_read_16 : decode cX3_read 16 = .ok (.iconst 0, 1) := by decide +kernel
theorem dX3_read_17 : decode cX3_read 17 = .ok (.putfield 42, 3) := by decide +kernel
theorem dX3_read_20 : decode cX3_read 20 = .ok (.aload_n 0, 1) := by decide +kernel
theorem dX3_read_21 : decode cX3_read 21 = .ok (.iconst 0, 1) := by decide +kernel
theorem dX3_read_22 : decode cX3_read 22 = .ok (.putfield 45, 3) := by decide +kernel
theorem dX3_read_25 : decode cX3_read 25 = .ok (.aload_n 0, 1) := by decide +kernel
theorem dX3_read_26 : decode cX3_read 26 = .ok (.iconst (-1), 1) := by decide +kernel
theorem dX3_read_27 : decode cX3_read 27 = .ok (.putfield 25, 3) := by decide +kernel
theorem dX3_read_30 : decode cX3_read 30 = .ok (.aload_n 0, 1) := by decide +kernel
theorem dX3_read_31 : decode cX3_read 31 = .ok (.getfield 12, 3) := by decide +kernel
theorem dX3_read_34 : decode cX3_read 34 = .ok (.invokevirtual 48, 3) := by decide +kernel
theorem dX3_read_37 : decode cX3_read 37 = .ok (.aload_n 0, 1) := by decide +kernel
theorem dX3_read_38 : decode cX3_read 38 = .ok (.getfield 21, 3) := by decide +kernel
theorem dX3_read_41 : decode cX3_read 41 = .ok (.invokevirtual 51, 3) := by decide +kernel
theorem dX3_read_44 : decode cX3_read 44 = .ok (.aload_n 0, 1) := by decide +kernel
theorem dX3_read_45 : decode cX3_read 45 = .ok (.invokevirtual 52, 3) := by decide +kernel
theorem dX3_read_48 : decode cX3_read 48 = .ok (.iconst 0, 1) := by decide +kernel
theorem dX3_read_49 : decode cX3_read 49 = .ok (.istore_n 3, 1) := by decide +kernel
theorem dX3_read_50 : decode cX3_read 50 = .ok (.iload_n 3, 1) := by decide +kernel
theorem dX3_read_51 : decode cX3_read 51 = .ok (.sipush 1400, 3) := by decide +kernel
theorem dX3_read_54 : decode cX3_read 54 = .ok (.if_icmp .gt 58, 3) := by decide +kernel
theorem dX3_read_57 : decode cX3_read 57 = .ok (.aload_n 0, 1) := by decide +kernel
theorem dX3_read_58 : decode cX3_read 58 = .ok (.getfield 45, 3) := by decide +kernel
theorem dX3_read_61 : decode cX3_read 61 = .ok (.ifCond .ne 51, 3) := by decide +kernel
theorem dX3_read_64 : decode cX3_read 64 = .ok (.aload_n 0, 1) := by decide +kernel
theorem dX3_read_65 : decode cX3_read 65 = .ok (.getfield 55, 3) := by decide +kernel
theorem dX3_read_68 : decode cX3_read 68 = .ok (.ifCond .eq 44, 3) := by decide +kernel
theorem dX3_read_71 : decode cX3_read 71 = .ok (.aload_n 0, 1) := by decide +kernel
theorem dX3_read_72 : decode cX3_read 72 = .ok (.ldc 58, 2) := by decide +kernel
theorem dX3_read_74 : decode cX3_read 74 = .ok (.invokevirtual 60, 3) := by decide +kernel
theorem dX3_read_77 : decode cX3_read 77 = .ok (.istore 4, 2) := by decide +kernel
theorem dX3_read_79 : decode cX3_read 79 = .ok (.iload 4, 2) := by decide +kernel
theorem dX3_read_81 : decode cX3_read 81 = .ok (.iconst 4, 1) := by decide +kernel
theorem dX3_read_82 : decode cX3_read 82 = .ok (.if_icmp .lt 14, 3) := by decide +kernel
theorem dX3_read_85 : decode cX3_read 85 = .ok (.aload_n 0, 1) := by decide +kernel
theorem dX3_read_86 : decode cX3_read 86 = .ok (.iload 4, 2) := by decide +kernel
theorem dX3_read_88 : decode cX3_read 88 = .ok (.iconst 4, 1) := by decide +kernel
theorem dX3_read_89 : decode cX3_read 89 = .ok (.isub, 1) := by decide +kernel
theorem dX3_read_90 : decode cX3_read 90 = .ok (.invokevirtual 64, 3) := by decide +kernel
theorem dX3_read_93 : decode cX3_read 93 = .ok (.goto 9, 3) := by decide +kernel
theorem dX3_read_96 : decode cX3_read 96 = .ok (.aload_n 0, 1) := by decide +kernel
theorem dX3_read_97 : decode cX3_read 97 = .ok (.iload 4, 2) := by decide +kernel
theorem dX3_read_99 : decode cX3_read 99 = .ok (.invokevirtual 68, 3) := by decide +kernel
theorem dX3_read_102 : decode cX3_read 102 = .ok (.aload_n 0, 1) := by decide +kernel
theorem dX3_read_103 : decode cX3_read 103 = .ok (.invokevirtual 71, 3) := by decide +kernel
theorem dX3_read_106 : decode cX3_read 106 = .ok (.iinc 3 1, 3) := by decide +kernel
theorem dX3_read_109 : decode cX3_read 109 = .ok (.goto (-59), 3) := by decide +kernel
theorem dX3_read_112 : decode cX3_read 112 = .ok (.return_, 1) := by decide +kernel
theorem dX3_readOther_0 : decode cX3_readOther 0 = .ok (.iload_n 1, 1) := by decide +kernel
theorem dX3_readOther_1 : decode cX3_readOther 1 = .ok (.tableswitch 87 0 3 #[31, 38, 45, 66], 31) := by decide +kernel
theorem dX3_readOther_32 : decode cX3_readOther 32 = .ok (.aload_n 0, 1) := by decide +kernel
theorem dX3_readOther_33 : decode cX3_readOther 33 = .ok (.invokevirtual 74, 3) := by decide +kernel
theorem dX3_readOther_36 : decode cX3_readOther 36 = .ok (.goto 57, 3) := by decide +kernel
theorem dX3_readOther_39 : decode cX3_readOther 39 = .ok (.aload_n 0, 1) := by decide +kernel
theorem dX3_readOther_40 : decode cX3_readOther 40 = .ok (.invokevirtual 77, 3) := by decide +kernel
theorem dX3_readOther_43 : decode cX3_readOther 43 = .ok (.goto 50, 3) := by decide +kernel
theorem dX3_readOther_46 : decode cX3_readOther 46 = .ok (.aload_n 0, 1) := by decide +kernel
theorem dX3_readOther_47 : decode cX3_readOther 47 = .ok (.invokevirtual 52, 3) := by decide +kernel
theorem dX3_readOther_50 : decode cX3_readOther 50 = .ok (.aload_n 0, 1) := by decide +kernel
theorem dX3_readOther_51 : decode cX3_readOther 51 = .ok (.getfield 12, 3) := by decide +kernel
theorem dX3_readOther_54 : decode cX3_readOther 54 = .ok (.aload_n 0, 1) := by decide +kernel
theorem dX3_readOther_55 : decode cX3_readOther 55 = .ok (.iconst 0, 1) := by decide +kernel
theorem dX3_readOther_56 : decode cX3_readOther 56 = .ok (.bipush 99, 2) := by decide +kernel
theorem dX3_readOther_58 : decode cX3_readOther 58 = .ok (.invokevirtual 80, 3) := by decide +kernel
theorem dX3_readOther_61 : decode cX3_readOther 61 = .ok (.putfield 83, 3) := by decide +kernel
theorem dX3_readOther_64 : decode cX3_readOther 64 = .ok (.goto 29, 3) := by decide +kernel
theorem dX3_readOther_67 : decode cX3_readOther 67 = .ok (.aload_n 0, 1) := by decide +kernel
theorem dX3_readOther_68 : decode cX3_readOther 68 = .ok (.invokevirtual 52, 3) := by decide +kernel
theorem dX3_readOther_71 : decode cX3_readOther 71 = .ok (.aload_n 0, 1) := by decide +kernel
theorem dX3_readOther_72 : decode cX3_readOther 72 = .ok (.getfield 12, 3) := by decide +kernel
theorem dX3_readOther_75 : decode cX3_readOther 75 = .ok (.aload_n 0, 1) := by decide +kernel
theorem dX3_readOther_76 : decode cX3_readOther 76 = .ok (.iconst 1, 1) := by decide +kernel
theorem dX3_readOther_77 : decode cX3_readOther 77 = .ok (.bipush 9, 2) := by decide +kernel
theorem dX3_readOther_79 : decode cX3_readOther 79 = .ok (.invokevirtual 80, 3) := by decide +kernel
theorem dX3_readOther_82 : decode cX3_readOther 82 = .ok (.putfield 86, 3) := by decide +kernel
theorem dX3_readOther_85 : decode cX3_readOther 85 = .ok (.goto 8, 3) := by decide +kernel
theorem dX3_readOther_88 : decode cX3_readOther 88 = .ok (.aload_n 0, 1) := by decide +kernel
theorem dX3_readOther_89 : decode cX3_readOther 89 = .ok (.iconst 1, 1) := by decide +kernel
theorem dX3_readOther_90 : decode cX3_readOther 90 = .ok (.invokevirtual 89, 3) := by decide +kernel
theorem dX3_readOther_93 : decode cX3_readOther 93 = .ok (.return_, 1) := by decide +kernel
theorem dX3_closeLine_0 : decode cX3_closeLine 0 = .ok (.aload_n 0, 1) := by decide +kernel
theorem dX3_closeLine_1 : decode cX3_closeLine 1 = .ok (.getfield 55, 3) := by decide +kernel
theorem dX3_closeLine_4 : decode cX3_closeLine 4 = .ok (.iconst 3, 1) := by decide +kernel
theorem dX3_closeLine_5 : decode cX3_closeLine 5 = .ok (.if_icmp .eq 8, 3) := by decide +kernel
theorem dX3_closeLine_8 : decode cX3_closeLine 8 = .ok (.aload_n 0, 1) := by decide +kernel
theorem dX3_closeLine_9 : decode cX3_closeLine 9 = .ok (.iconst 1, 1) := by decide +kernel
theorem dX3_closeLine_10 : decode cX3_closeLine 10 = .ok (.invokevirtual 89, 3) := by decide +kernel
theorem dX3_closeLine_13 : decode cX3_closeLine 13 = .ok (.aload_n 0, 1) := by decide +kernel
theorem dX3_closeLine_14 : decode cX3_closeLine 14 = .ok (.getfield 45, 3) := by decide +kernel
theorem dX3_closeLine_17 : decode cX3_closeLine 17 = .ok (.ifCond .ne 7, 3) := by decide +kernel
theorem dX3_closeLine_20 : decode cX3_closeLine 20 = .ok (.aload_n 0, 1) := by decide +kernel
theorem dX3_closeLine_21 : decode cX3_closeLine 21 = .ok (.invokevirtual 52, 3) := by decide +kernel
theorem dX3_closeLine_24 : decode cX3_closeLine 24 = .ok (.return_, 1) := by decide +kernel
theorem dX3_readHouse_0 : decode cX3_readHouse 0 = .ok (.aload_n 0, 1) := by decide +kernel
theorem dX3_readHouse_1 : decode cX3_readHouse 1 = .ok (.getfield 12, 3) := by decide +kernel
theorem dX3_readHouse_4 : decode cX3_readHouse 4 = .ok (.getfield 92, 3) := by decide +kernel
theorem dX3_readHouse_7 : decode cX3_readHouse 7 = .ok (.istore_n 1, 1) := by decide +kernel
theorem dX3_readHouse_8 : decode cX3_readHouse 8 = .ok (.iload_n 1, 1) := by decide +kernel
theorem dX3_readHouse_9 : decode cX3_readHouse 9 = .ok (.bipush 16, 2) := by decide +kernel
theorem dX3_readHouse_11 : decode cX3_readHouse 11 = .ok (.if_icmp .lt 9, 3) := by decide +kernel
theorem dX3_readHouse_14 : decode cX3_readHouse 14 = .ok (.aload_n 0, 1) := by decide +kernel
theorem dX3_readHouse_15 : decode cX3_readHouse 15 = .ok (.iconst 3, 1) := by decide +kernel
theorem dX3_readHouse_16 : decode cX3_readHouse 16 = .ok (.invokevirtual 89, 3) := by decide +kernel
theorem dX3_readHouse_19 : decode cX3_readHouse 19 = .ok (.return_, 1) := by decide +kernel
theorem dX3_readHouse_20 : decode cX3_readHouse 20 = .ok (.aload_n 0, 1) := by decide +kernel
theorem dX3_readHouse_21 : decode cX3_readHouse 21 = .ok (.invokevirtual 52, 3) := by decide +kernel
theorem dX3_readHouse_24 : decode cX3_readHouse 24 = .ok (.aload_n 0, 1) := by decide +kernel
theorem dX3_readHouse_25 : decode cX3_readHouse 25 = .ok (.ldc 95, 2) := by decide +kernel
theorem dX3_readHouse_27 : decode cX3_readHouse 27 = .ok (.invokevirtual 97, 3) := by decide +kernel
theorem dX3_readHouse_30 : decode cX3_readHouse 30 = .ok (.pop, 1) := by decide +kernel
theorem dX3_readHouse_31 : decode cX3_readHouse 31 = .ok (.aload_n 0, 1) := by decide +kernel
theorem dX3_readHouse_32 : decode cX3_readHouse 32 = .ok (.getfield 12, 3) := by decide +kernel
theorem dX3_readHouse_35 : decode cX3_readHouse 35 = .ok (.getfield 100, 3) := by decide +kernel
theorem dX3_readHouse_38 : decode cX3_readHouse 38 = .ok (.iload_n 1, 1) := by decide +kernel
theorem dX3_readHouse_39 : decode cX3_readHouse 39 = .ok (.aload_n 0, 1) := by decide +kernel
theorem dX3_readHouse_40 : decode cX3_readHouse 40 = .ok (.iconst 0, 1) := by decide +kernel
theorem dX3_readHouse_41 : decode cX3_readHouse 41 = .ok (.bipush 99, 2) := by decide +kernel
theorem dX3_readHouse_43 : decode cX3_readHouse 43 = .ok (.invokevirtual 80, 3) := by decide +kernel
theorem dX3_readHouse_46 : decode cX3_readHouse 46 = .ok (.iastore, 1) := by decide +kernel
theorem dX3_readHouse_47 : decode cX3_readHouse 47 = .ok (.aload_n 0, 1) := by decide +kernel
theorem dX3_readHouse_48 : decode cX3_readHouse 48 = .ok (.getfield 12, 3) := by decide +kernel
theorem dX3_readHouse_51 : decode cX3_readHouse 51 = .ok (.getfield 104, 3) := by decide +kernel
theorem dX3_readHouse_54 : decode cX3_readHouse 54 = .ok (.iload_n 1, 1) := by decide +kernel
theorem dX3_readHouse_55 : decode cX3_readHouse 55 = .ok (.aload_n 0, 1) := by decide +kernel
theorem dX3_readHouse_56 : decode cX3_readHouse 56 = .ok (.iconst 0, 1) := by decide +kernel
theorem dX3_readHouse_57 : decode cX3_readHouse 57 = .ok (.bipush 99, 2) := by decide +kernel
theorem dX3_readHouse_59 : decode cX3_readHouse 59 = .ok (.invokevirtual 80, 3) := by decide +kernel
theorem dX3_readHouse_62 : decode cX3_readHouse 62 = .ok (.iastore, 1) := by decide +kernel
theorem dX3_readHouse_63 : decode cX3_readHouse 63 = .ok (.aload_n 0, 1) := by decide +kernel
theorem dX3_readHouse_64 : decode cX3_readHouse 64 = .ok (.ldc 107, 2) := by decide +kernel
theorem dX3_readHouse_66 : decode cX3_readHouse 66 = .ok (.invokevirtual 97, 3) := by decide +kernel
theorem dX3_readHouse_69 : decode cX3_readHouse 69 = .ok (.pop, 1) := by decide +kernel
theorem dX3_readHouse_70 : decode cX3_readHouse 70 = .ok (.aload_n 0, 1) := by decide +kernel
theorem dX3_readHouse_71 : decode cX3_readHouse 71 = .ok (.getfield 12, 3) := by decide +kernel
theorem dX3_readHouse_74 : decode cX3_readHouse 74 = .ok (.getfield 109, 3) := by decide +kernel
theorem dX3_readHouse_77 : decode cX3_readHouse 77 = .ok (.iload_n 1, 1) := by decide +kernel
theorem dX3_readHouse_78 : decode cX3_readHouse 78 = .ok (.aload_n 0, 1) := by decide +kernel
theorem dX3_readHouse_79 : decode cX3_readHouse 79 = .ok (.iconst 0, 1) := by decide +kernel
theorem dX3_readHouse_80 : decode cX3_readHouse 80 = .ok (.bipush 9, 2) := by decide +kernel
theorem dX3_readHouse_82 : decode cX3_readHouse 82 = .ok (.invokevirtual 80, 3) := by decide +kernel
theorem dX3_readHouse_85 : decode cX3_readHouse 85 = .ok (.iastore, 1) := by decide +kernel
theorem dX3_readHouse_86 : decode cX3_readHouse 86 = .ok (.aload_n 0, 1) := by decide +kernel
theorem dX3_readHouse_87 : decode cX3_readHouse 87 = .ok (.ldc 111, 2) := by decide +kernel
theorem dX3_readHouse_89 : decode cX3_readHouse 89 = .ok (.invokevirtual 97, 3) := by decide +kernel
theorem dX3_readHouse_92 : decode cX3_readHouse 92 = .ok (.pop, 1) := by decide +kernel
theorem dX3_readHouse_93 : decode cX3_readHouse 93 = .ok (.aload_n 0, 1) := by decide +kernel
theorem dX3_readHouse_94 : decode cX3_readHouse 94 = .ok (.getfield 12, 3) := by decide +kernel
theorem dX3_readHouse_97 : decode cX3_readHouse 97 = .ok (.getfield 113, 3) := by decide +kernel
theorem dX3_readHouse_100 : decode cX3_readHouse 100 = .ok (.iload_n 1, 1) := by decide +kernel
theorem dX3_readHouse_101 : decode cX3_readHouse 101 = .ok (.aload_n 0, 1) := by decide +kernel
theorem dX3_readHouse_102 : decode cX3_readHouse 102 = .ok (.ldc 116, 2) := by decide +kernel
theorem dX3_readHouse_104 : decode cX3_readHouse 104 = .ok (.invokevirtual 97, 3) := by decide +kernel
theorem dX3_readHouse_107 : decode cX3_readHouse 107 = .ok (.iastore, 1) := by decide +kernel
theorem dX3_readHouse_108 : decode cX3_readHouse 108 = .ok (.aload_n 0, 1) := by decide +kernel
theorem dX3_readHouse_109 : decode cX3_readHouse 109 = .ok (.getfield 12, 3) := by decide +kernel
theorem dX3_readHouse_112 : decode cX3_readHouse 112 = .ok (.getfield 118, 3) := by decide +kernel
theorem dX3_readHouse_115 : decode cX3_readHouse 115 = .ok (.iload_n 1, 1) := by decide +kernel
theorem dX3_readHouse_116 : decode cX3_readHouse 116 = .ok (.aload_n 0, 1) := by decide +kernel
theorem dX3_readHouse_117 : decode cX3_readHouse 117 = .ok (.iconst 0, 1) := by decide +kernel
theorem dX3_readHouse_118 : decode cX3_readHouse 118 = .ok (.sipush 180, 3) := by decide +kernel
theorem dX3_readHouse_121 : decode cX3_readHouse 121 = .ok (.invokevirtual 80, 3) := by decide +kernel
theorem dX3_readHouse_124 : decode cX3_readHouse 124 = .ok (.iastore, 1) := by decide +kernel
theorem dX3_readHouse_125 : decode cX3_readHouse 125 = .ok (.aload_n 0, 1) := by decide +kernel
theorem dX3_readHouse_126 : decode cX3_readHouse 126 = .ok (.getfield 12, 3) := by decide +kernel
theorem dX3_readHouse_129 : decode cX3_readHouse 129 = .ok (.getfield 121, 3) := by decide +kernel
theorem dX3_readHouse_132 : decode cX3_readHouse 132 = .ok (.iload_n 1, 1) := by decide +kernel
theorem dX3_readHouse_133 : decode cX3_readHouse 133 = .ok (.aload_n 0, 1) := by decide +kernel
theorem dX3_readHouse_134 : decode cX3_readHouse 134 = .ok (.aload_n 0, 1) := by decide +kernel
theorem dX3_readHouse_135 : decode cX3_readHouse 135 = .ok (.getfield 12, 3) := by decide +kernel
theorem dX3_readHouse_138 : decode cX3_readHouse 138 = .ok (.getfield 118, 3) := by decide +kernel
theorem dX3_readHouse_141 : decode cX3_readHouse 141 = .ok (.iload_n 1, 1) := by decide +kernel
theorem dX3_readHouse_142 : decode cX3_readHouse 142 = .ok (.iaload, 1) := by decide +kernel
theorem dX3_readHouse_143 : decode cX3_readHouse 143 = .ok (.sipush 180, 3) := by decide +kernel
theorem dX3_readHouse_146 : decode cX3_readHouse 146 = .ok (.invokevirtual 80, 3) := by decide +kernel
theorem dX3_readHouse_149 : decode cX3_readHouse 149 = .ok (.iastore, 1) := by decide +kernel
theorem dX3_readHouse_150 : decode cX3_readHouse 150 = .ok (.aload_n 0, 1) := by decide +kernel
theorem dX3_readHouse_151 : decode cX3_readHouse 151 = .ok (.getfield 12, 3) := by decide +kernel
theorem dX3_readHouse_154 : decode cX3_readHouse 154 = .ok (.getfield 124, 3) := by decide +kernel
theorem dX3_readHouse_157 : decode cX3_readHouse 157 = .ok (.iload_n 1, 1) := by decide +kernel
theorem dX3_readHouse_158 : decode cX3_readHouse 158 = .ok (.aload_n 0, 1) := by decide +kernel
theorem dX3_readHouse_159 : decode cX3_readHouse 159 = .ok (.ldc 127, 2) := by decide +kernel
theorem dX3_readHouse_161 : decode cX3_readHouse 161 = .ok (.invokevirtual 128, 3) := by decide +kernel
theorem dX3_readHouse_164 : decode cX3_readHouse 164 = .ok (.ifCond .eq 14, 3) := by decide +kernel
theorem dX3_readHouse_167 : decode cX3_readHouse 167 = .ok (.aload_n 0, 1) := by decide +kernel
theorem dX3_readHouse_168 : decode cX3_readHouse 168 = .ok (.iconst 0, 1) := by decide +kernel
theorem dX3_readHouse_169 : decode cX3_readHouse 169 = .ok (.sipush 399, 3) := by decide +kernel
theorem dX3_readHouse_172 : decode cX3_readHouse 172 = .ok (.invokevirtual 80, 3) := by decide +kernel
theorem dX3_readHouse_175 : decode cX3_readHouse 175 = .ok (.goto 4, 3) := by decide +kernel
theorem dX3_readHouse_178 : decode cX3_readHouse 178 = .ok (.iconst 0, 1) := by decide +kernel
theorem dX3_readHouse_179 : decode cX3_readHouse 179 = .ok (.iastore, 1) := by decide +kernel
theorem dX3_readHouse_180 : decode cX3_readHouse 180 = .ok (.aload_n 0, 1) := by decide +kernel
theorem dX3_readHouse_181 : decode cX3_readHouse 181 = .ok (.getfield 12, 3) := by decide +kernel
theorem dX3_readHouse_184 : decode cX3_readHouse 184 = .ok (.getfield 132, 3) := by decide +kernel
theorem dX3_readHouse_187 : decode cX3_readHouse 187 = .ok (.iload_n 1, 1) := by decide +kernel
theorem dX3_readHouse_188 : decode cX3_readHouse 188 = .ok (.aload_n 0, 1) := by decide +kernel
theorem dX3_readHouse_189 : decode cX3_readHouse 189 = .ok (.ldc 135, 2) := by decide +kernel
theorem dX3_readHouse_191 : decode cX3_readHouse 191 = .ok (.invokevirtual 128, 3) := by decide +kernel
theorem dX3_readHouse_194 : decode cX3_readHouse 194 = .ok (.ifCond .eq 13, 3) := by decide +kernel
theorem dX3_readHouse_197 : decode cX3_readHouse 197 = .ok (.aload_n 0, 1) := by decide +kernel
theorem dX3_readHouse_198 : decode cX3_readHouse 198 = .ok (.iconst 0, 1) := by decide +kernel
theorem dX3_readHouse_199 : decode cX3_readHouse 199 = .ok (.bipush 99, 2) := by decide +kernel
theorem dX3_readHouse_201 : decode cX3_readHouse 201 = .ok (.invokevirtual 80, 3) := by decide +kernel
theorem dX3_readHouse_204 : decode cX3_readHouse 204 = .ok (.goto 4, 3) := by decide +kernel
theorem dX3_readHouse_207 : decode cX3_readHouse 207 = .ok (.iconst 0, 1) := by decide +kernel
theorem dX3_readHouse_208 : decode cX3_readHouse 208 = .ok (.iastore, 1) := by decide +kernel
theorem dX3_readHouse_209 : decode cX3_readHouse 209 = .ok (.aload_n 0, 1) := by decide +kernel
theorem dX3_readHouse_210 : decode cX3_readHouse 210 = .ok (.getfield 12, 3) := by decide +kernel
theorem dX3_readHouse_213 : decode cX3_readHouse 213 = .ok (.dup, 1) := by decide +kernel
theorem dX3_readHouse_214 : decode cX3_readHouse 214 = .ok (.getfield 92, 3) := by decide +kernel
theorem dX3_readHouse_217 : decode cX3_readHouse 217 = .ok (.iconst 1, 1) := by decide +kernel
theorem dX3_readHouse_218 : decode cX3_readHouse 218 = .ok (.iadd, 1) := by decide +kernel
theorem dX3_readHouse_219 : decode cX3_readHouse 219 = .ok (.putfield 92, 3) := by decide +kernel
theorem dX3_readHouse_222 : decode cX3_readHouse 222 = .ok (.return_, 1) := by decide +kernel
theorem dX3_readKnow_0 : decode cX3_readKnow 0 = .ok (.aload_n 0, 1) := by decide +kernel
theorem dX3_readKnow_1 : decode cX3_readKnow 1 = .ok (.invokevirtual 52, 3) := by decide +kernel
theorem dX3_readKnow_4 : decode cX3_readKnow 4 = .ok (.aload_n 0, 1) := by decide +kernel
theorem dX3_readKnow_5 : decode cX3_readKnow 5 = .ok (.iconst 0, 1) := by decide +kernel
theorem dX3_readKnow_6 : decode cX3_readKnow 6 = .ok (.aload_n 0, 1) := by decide +kernel
theorem dX3_readKnow_7 : decode cX3_readKnow 7 = .ok (.getfield 12, 3) := by decide +kernel
theorem dX3_readKnow_10 : decode cX3_readKnow 10 = .ok (.getfield 92, 3) := by decide +kernel
theorem dX3_readKnow_13 : decode cX3_readKnow 13 = .ok (.iconst 1, 1) := by decide +kernel
theorem dX3_readKnow_14 : decode cX3_readKnow 14 = .ok (.isub, 1) := by decide +kernel
theorem dX3_readKnow_15 : decode cX3_readKnow 15 = .ok (.invokevirtual 80, 3) := by decide +kernel
theorem dX3_readKnow_18 : decode cX3_readKnow 18 = .ok (.istore_n 1, 1) := by decide +kernel
theorem dX3_readKnow_19 : decode cX3_readKnow 19 = .ok (.aload_n 0, 1) := by decide +kernel
theorem dX3_readKnow_20 : decode cX3_readKnow 20 = .ok (.getfield 55, 3) := by decide +kernel
theorem dX3_readKnow_23 : decode cX3_readKnow 23 = .ok (.iconst 2, 1) := by decide +kernel
theorem dX3_readKnow_24 : decode cX3_readKnow 24 = .ok (.if_icmp .ne 16, 3) := by decide +kernel
theorem dX3_readKnow_27 : decode cX3_readKnow 27 = .ok (.aload_n 0, 1) := by decide +kernel
theorem dX3_readKnow_28 : decode cX3_readKnow 28 = .ok (.getfield 136, 3) := by decide +kernel
theorem dX3_readKnow_31 : decode cX3_readKnow 31 = .ok (.iload_n 1, 1) := by decide +kernel
theorem dX3_readKnow_32 : decode cX3_readKnow 32 = .ok (.if_icmp .ne 8, 3) := by decide +kernel
theorem dX3_readKnow_35 : decode cX3_readKnow 35 = .ok (.aload_n 0, 1) := by decide +kernel
theorem dX3_readKnow_36 : decode cX3_readKnow 36 = .ok (.iconst 2, 1) := by decide +kernel
theorem dX3_readKnow_37 : decode cX3_readKnow 37 = .ok (.invokevirtual 89, 3) := by decide +kernel
theorem dX3_readKnow_40 : decode cX3_readKnow 40 = .ok (.aload_n 0, 1) := by decide +kernel
theorem dX3_readKnow_41 : decode cX3_readKnow 41 = .ok (.iconst 0, 1) := by decide +kernel
theorem dX3_readKnow_42 : decode cX3_readKnow 42 = .ok (.aload_n 0, 1) := by decide +kernel
theorem dX3_readKnow_43 : decode cX3_readKnow 43 = .ok (.getfield 12, 3) := by decide +kernel
theorem dX3_readKnow_46 : decode cX3_readKnow 46 = .ok (.getfield 92, 3) := by decide +kernel
theorem dX3_readKnow_49 : decode cX3_readKnow 49 = .ok (.iconst 1, 1) := by decide +kernel
theorem dX3_readKnow_50 : decode cX3_readKnow 50 = .ok (.isub, 1) := by decide +kernel
theorem dX3_readKnow_51 : decode cX3_readKnow 51 = .ok (.invokevirtual 80, 3) := by decide +kernel
theorem dX3_readKnow_54 : decode cX3_readKnow 54 = .ok (.istore_n 2, 1) := by decide +kernel
theorem dX3_readKnow_55 : decode cX3_readKnow 55 = .ok (.aload_n 0, 1) := by decide +kernel
theorem dX3_readKnow_56 : decode cX3_readKnow 56 = .ok (.getfield 45, 3) := by decide +kernel
theorem dX3_readKnow_59 : decode cX3_readKnow 59 = .ok (.ifCond .ne 33, 3) := by decide +kernel
theorem dX3_readKnow_62 : decode cX3_readKnow 62 = .ok (.aload_n 0, 1) := by decide +kernel
theorem dX3_readKnow_63 : decode cX3_readKnow 63 = .ok (.getfield 12, 3) := by decide +kernel
theorem dX3_readKnow_66 : decode cX3_readKnow 66 = .ok (.getfield 139, 3) := by decide +kernel
theorem dX3_readKnow_69 : decode cX3_readKnow 69 = .ok (.iload_n 1, 1) := by decide +kernel
theorem dX3_readKnow_70 : decode cX3_readKnow 70 = .ok (.dup2, 1) := by decide +kernel
theorem dX3_readKnow_71 : decode cX3_readKnow 71 = .ok (.iaload, 1) := by decide +kernel
theorem dX3_readKnow_72 : decode cX3_readKnow 72 = .ok (.iconst 1, 1) := by decide +kernel
theorem dX3_readKnow_73 : decode cX3_readKnow 73 = .ok (.iload_n 2, 1) := by decide +kernel
theorem dX3_readKnow_74 : decode cX3_readKnow 74 = .ok (.ishl, 1) := by decide +kernel
theorem dX3_readKnow_75 : decode cX3_readKnow 75 = .ok (.ior, 1) := by decide +kernel
theorem dX3_readKnow_76 : decode cX3_readKnow 76 = .ok (.iastore, 1) := by decide +kernel
theorem dX3_readKnow_77 : decode cX3_readKnow 77 = .ok (.aload_n 0, 1) := by decide +kernel
theorem dX3_readKnow_78 : decode cX3_readKnow 78 = .ok (.getfield 12, 3) := by decide +kernel
theorem dX3_readKnow_81 : decode cX3_readKnow 81 = .ok (.getfield 139, 3) := by decide +kernel
theorem dX3_readKnow_84 : decode cX3_readKnow 84 = .ok (.iload_n 2, 1) := by decide +kernel
theorem dX3_readKnow_85 : decode cX3_readKnow 85 = .ok (.dup2, 1) := by decide +kernel
theorem dX3_readKnow_86 : decode cX3_readKnow 86 = .ok (.iaload, 1) := by decide +kernel
theorem dX3_readKnow_87 : decode cX3_readKnow 87 = .ok (.iconst 1, 1) := by decide +kernel
theorem dX3_readKnow_88 : decode cX3_readKnow 88 = .ok (.iload_n 1, 1) := by decide +kernel
theorem dX3_readKnow_89 : decode cX3_readKnow 89 = .ok (.ishl, 1) := by decide +kernel
theorem dX3_readKnow_90 : decode cX3_readKnow 90 = .ok (.ior, 1) := by decide +kernel
theorem dX3_readKnow_91 : decode cX3_readKnow 91 = .ok (.iastore, 1) := by decide +kernel
theorem dX3_readKnow_92 : decode cX3_readKnow 92 = .ok (.return_, 1) := by decide +kernel
theorem dX3_readOwes_0 : decode cX3_readOwes 0 = .ok (.aload_n 0, 1) := by decide +kernel
theorem dX3_readOwes_1 : decode cX3_readOwes 1 = .ok (.getfield 21, 3) := by decide +kernel
theorem dX3_readOwes_4 : decode cX3_readOwes 4 = .ok (.getfield 142, 3) := by decide +kernel
theorem dX3_readOwes_7 : decode cX3_readOwes 7 = .ok (.istore_n 2, 1) := by decide +kernel
theorem dX3_readOwes_8 : decode cX3_readOwes 8 = .ok (.iload_n 2, 1) := by decide +kernel
theorem dX3_readOwes_9 : decode cX3_readOwes 9 = .ok (.bipush 24, 2) := by decide +kernel
theorem dX3_readOwes_11 : decode cX3_readOwes 11 = .ok (.if_icmp .lt 9, 3) := by decide +kernel
theorem dX3_readOwes_14 : decode cX3_readOwes 14 = .ok (.aload_n 0, 1) := by decide +kernel
theorem dX3_readOwes_15 : decode cX3_readOwes 15 = .ok (.iconst 3, 1) := by decide +kernel
theorem dX3_readOwes_16 : decode cX3_readOwes 16 = .ok (.invokevirtual 89, 3) := by decide +kernel
theorem dX3_readOwes_19 : decode cX3_readOwes 19 = .ok (.return_, 1) := by decide +kernel
theorem dX3_readOwes_20 : decode cX3_readOwes 20 = .ok (.aload_n 0, 1) := by decide +kernel
theorem dX3_readOwes_21 : decode cX3_readOwes 21 = .ok (.invokevirtual 52, 3) := by decide +kernel
theorem dX3_readOwes_24 : decode cX3_readOwes 24 = .ok (.aload_n 0, 1) := by decide +kernel
theorem dX3_readOwes_25 : decode cX3_readOwes 25 = .ok (.ldc 145, 2) := by decide +kernel
theorem dX3_readOwes_27 : decode cX3_readOwes 27 = .ok (.invokevirtual 97, 3) := by decide +kernel
theorem dX3_readOwes_30 : decode cX3_readOwes 30 = .ok (.pop, 1) := by decide +kernel
theorem dX3_readOwes_31 : decode cX3_readOwes 31 = .ok (.aload_n 0, 1) := by decide +kernel
theorem dX3_readOwes_32 : decode cX3_readOwes 32 = .ok (.getfield 21, 3) := by decide +kernel
theorem dX3_readOwes_35 : decode cX3_readOwes 35 = .ok (.getfield 147, 3) := by decide +kernel
theorem dX3_readOwes_38 : decode cX3_readOwes 38 = .ok (.iload_n 2, 1) := by decide +kernel
theorem dX3_readOwes_39 : decode cX3_readOwes 39 = .ok (.iload_n 1, 1) := by decide +kernel
theorem dX3_readOwes_40 : decode cX3_readOwes 40 = .ok (.iastore, 1) := by decide +kernel
theorem dX3_readOwes_41 : decode cX3_readOwes 41 = .ok (.aload_n 0, 1) := by decide +kernel
theorem dX3_readOwes_42 : decode cX3_readOwes 42 = .ok (.getfield 21, 3) := by decide +kernel
theorem dX3_readOwes_45 : decode cX3_readOwes 45 = .ok (.getfield 150, 3) := by decide +kernel
theorem dX3_readOwes_48 : decode cX3_readOwes 48 = .ok (.iload_n 2, 1) := by decide +kernel
theorem dX3_readOwes_49 : decode cX3_readOwes 49 = .ok (.aload_n 0, 1) := by decide +kernel
theorem dX3_readOwes_50 : decode cX3_readOwes 50 = .ok (.ldc 152, 2) := by decide +kernel
theorem dX3_readOwes_52 : decode cX3_readOwes 52 = .ok (.invokevirtual 97, 3) := by decide +kernel
