theorem dX10_town_136 : decode cX10_town 136 = .ok (.aload_n 0, 1) := by decide +kernel
theorem dX10_town_137 : decode cX10_town 137 = .ok (.iload_n 1, 1) := by decide +kernel
theorem dX10_town_138 : decode cX10_town 138 = .ok (.bipush 8, 2) := by decide +kernel
theorem dX10_town_140 : decode cX10_town 140 = .ok (.invokevirtual 286, 3) := by decide +kernel
theorem dX10_town_143 : decode cX10_town 143 = .ok (.iastore, 1) := by decide +kernel
theorem dX10_town_144 : decode cX10_town 144 = .ok (.iinc 1 1, 3) := by decide +kernel
theorem dX10_town_147 : decode cX10_town 147 = .ok (.goto (-26), 3) := by decide +kernel
theorem dX10_town_150 : decode cX10_town 150 = .ok (.aload_n 0, 1) := by decide +kernel
theorem dX10_town_151 : decode cX10_town 151 = .ok (.getfield 13, 3) := by decide +kernel
theorem dX10_town_154 : decode cX10_town 154 = .ok (.iconst 0, 1) := by decide +kernel
theorem dX10_town_155 : decode cX10_town 155 = .ok (.iaload, 1) := by decide +kernel
theorem dX10_town_156 : decode cX10_town 156 = .ok (.ireturn, 1) := by decide +kernel
theorem dX10_days_0 : decode cX10_days 0 = .ok (.iload_n 1, 1) := by decide +kernel
theorem dX10_days_1 : decode cX10_days 1 = .ok (.i2l, 1) := by decide +kernel
theorem dX10_days_2 : decode cX10_days 2 = .ok (.lconst 0, 1) := by decide +kernel
theorem dX10_days_3 : decode cX10_days 3 = .ok (.ldc2_w 289, 3) := by decide +kernel
theorem dX10_days_6 : decode cX10_days 6 = .ok (.invokestatic 101, 3) := by decide +kernel
theorem dX10_days_9 : decode cX10_days 9 = .ok (.ifCond .eq 15, 3) := by decide +kernel
theorem dX10_days_12 : decode cX10_days 12 = .ok (.aload_n 0, 1) := by decide +kernel
theorem dX10_days_13 : decode cX10_days 13 = .ok (.invokevirtual 291, 3) := by decide +kernel
theorem dX10_days_16 : decode cX10_days 16 = .ok (.iload_n 1, 1) := by decide +kernel
theorem dX10_days_17 : decode cX10_days 17 = .ok (.iadd, 1) := by decide +kernel
theorem dX10_days_18 : decode cX10_days 18 = .ok (.sipush 399, 3) := by decide +kernel
theorem dX10_days_21 : decode cX10_days 21 = .ok (.if_icmp .le 6, 3) := by decide +kernel
theorem dX10_days_24 : decode cX10_days 24 = .ok (.bipush (-2), 2) := by decide +kernel
theorem dX10_days_26 : decode cX10_days 26 = .ok (.ireturn, 1) := by decide +kernel
theorem dX10_days_27 : decode cX10_days 27 = .ok (.aload_n 0, 1) := by decide +kernel
theorem dX10_days_28 : decode cX10_days 28 = .ok (.getfield 13, 3) := by decide +kernel
theorem dX10_days_31 : decode cX10_days 31 = .ok (.bipush 6, 2) := by decide +kernel
theorem dX10_days_33 : decode cX10_days 33 = .ok (.dup2, 1) := by decide +kernel
theorem dX10_days_34 : decode cX10_days 34 = .ok (.iaload, 1) := by decide +kernel
theorem dX10_days_35 : decode cX10_days 35 = .ok (.iload_n 1, 1) := by decide +kernel
theorem dX10_days_36 : decode cX10_days 36 = .ok (.iadd, 1) := by decide +kernel
theorem dX10_days_37 : decode cX10_days 37 = .ok (.iastore, 1) := by decide +kernel
theorem dX10_days_38 : decode cX10_days 38 = .ok (.aload_n 0, 1) := by decide +kernel
theorem dX10_days_39 : decode cX10_days 39 = .ok (.invokevirtual 291, 3) := by decide +kernel
theorem dX10_days_42 : decode cX10_days 42 = .ok (.ireturn, 1) := by decide +kernel
theorem dX10_bars_0 : decode cX10_bars 0 = .ok (.aload_n 0, 1) := by decide +kernel
theorem dX10_bars_1 : decode cX10_bars 1 = .ok (.iload_n 1, 1) := by decide +kernel
theorem dX10_bars_2 : decode cX10_bars 2 = .ok (.iload_n 2, 1) := by decide +kernel
theorem dX10_bars_3 : decode cX10_bars 3 = .ok (.invokevirtual 315, 3) := by decide +kernel
theorem dX10_bars_6 : decode cX10_bars 6 = .ok (.ifCond .eq 20, 3) := by decide +kernel
theorem dX10_bars_9 : decode cX10_bars 9 = .ok (.iload_n 3, 1) := by decide +kernel
theorem dX10_bars_10 : decode cX10_bars 10 = .ok (.invokestatic 318, 3) := by decide +kernel
theorem dX10_bars_13 : decode cX10_bars 13 = .ok (.ifCond .eq 13, 3) := by decide +kernel
theorem dX10_bars_16 : decode cX10_bars 16 = .ok (.aload_n 0, 1) := by decide +kernel
theorem dX10_bars_17 : decode cX10_bars 17 = .ok (.iload_n 1, 1) := by decide +kernel
theorem dX10_bars_18 : decode cX10_bars 18 = .ok (.iload_n 2, 1) := by decide +kernel
theorem dX10_bars_19 : decode cX10_bars 19 = .ok (.iload_n 3, 1) := by decide +kernel
theorem dX10_bars_20 : decode cX10_bars 20 = .ok (.invokevirtual 321, 3) := by decide +kernel
theorem dX10_bars_23 : decode cX10_bars 23 = .ok (.goto 5, 3) := by decide +kernel
theorem dX10_bars_26 : decode cX10_bars 26 = .ok (.bipush (-2), 2) := by decide +kernel
theorem dX10_bars_28 : decode cX10_bars 28 = .ok (.ireturn, 1) := by decide +kernel
theorem dX10_known_0 : decode cX10_known 0 = .ok (.aload_n 0, 1) := by decide +kernel
theorem dX10_known_1 : decode cX10_known 1 = .ok (.iload_n 1, 1) := by decide +kernel
theorem dX10_known_2 : decode cX10_known 2 = .ok (.iload_n 2, 1) := by decide +kernel
theorem dX10_known_3 : decode cX10_known 3 = .ok (.invokevirtual 315, 3) := by decide +kernel
theorem dX10_known_6 : decode cX10_known 6 = .ok (.ifCond .ne 8, 3) := by decide +kernel
theorem dX10_known_9 : decode cX10_known 9 = .ok (.bipush (-2), 2) := by decide +kernel
theorem dX10_known_11 : decode cX10_known 11 = .ok (.goto 17, 3) := by decide +kernel
theorem dX10_known_14 : decode cX10_known 14 = .ok (.aload_n 0, 1) := by decide +kernel
theorem dX10_known_15 : decode cX10_known 15 = .ok (.iload_n 1, 1) := by decide +kernel
theorem dX10_known_16 : decode cX10_known 16 = .ok (.iload_n 2, 1) := by decide +kernel
theorem dX10_known_17 : decode cX10_known 17 = .ok (.invokevirtual 304, 3) := by decide +kernel
theorem dX10_known_20 : decode cX10_known 20 = .ok (.ifCond .eq 7, 3) := by decide +kernel
theorem dX10_known_23 : decode cX10_known 23 = .ok (.iconst 1, 1) := by decide +kernel
theorem dX10_known_24 : decode cX10_known 24 = .ok (.goto 4, 3) := by decide +kernel
theorem dX10_known_27 : decode cX10_known 27 = .ok (.iconst 0, 1) := by decide +kernel
theorem dX10_known_28 : decode cX10_known 28 = .ok (.ireturn, 1) := by decide +kernel
theorem dX10_does_0 : decode cX10_does 0 = .ok (.aload_n 0, 1) := by decide +kernel
theorem dX10_does_1 : decode cX10_does 1 = .ok (.iload_n 1, 1) := by decide +kernel
theorem dX10_does_2 : decode cX10_does 2 = .ok (.iload_n 2, 1) := by decide +kernel
theorem dX10_does_3 : decode cX10_does 3 = .ok (.invokevirtual 315, 3) := by decide +kernel
theorem dX10_does_6 : decode cX10_does 6 = .ok (.ifCond .eq 10, 3) := by decide +kernel
theorem dX10_does_9 : decode cX10_does 9 = .ok (.iload_n 3, 1) := by decide +kernel
theorem dX10_does_10 : decode cX10_does 10 = .ok (.invokestatic 318, 3) := by decide +kernel
theorem dX10_does_13 : decode cX10_does 13 = .ok (.ifCond .ne 6, 3) := by decide +kernel
theorem dX10_does_16 : decode cX10_does 16 = .ok (.bipush (-2), 2) := by decide +kernel
theorem dX10_does_18 : decode cX10_does 18 = .ok (.ireturn, 1) := by decide +kernel
theorem dX10_does_19 : decode cX10_does 19 = .ok (.aload_n 0, 1) := by decide +kernel
theorem dX10_does_20 : decode cX10_does 20 = .ok (.iload_n 1, 1) := by decide +kernel
theorem dX10_does_21 : decode cX10_does 21 = .ok (.iload_n 2, 1) := by decide +kernel
theorem dX10_does_22 : decode cX10_does 22 = .ok (.iload_n 3, 1) := by decide +kernel
theorem dX10_does_23 : decode cX10_does 23 = .ok (.invokevirtual 321, 3) := by decide +kernel
theorem dX10_does_26 : decode cX10_does 26 = .ok (.ifCond .eq 6, 3) := by decide +kernel
theorem dX10_does_29 : decode cX10_does 29 = .ok (.bipush (-5), 2) := by decide +kernel
theorem dX10_does_31 : decode cX10_does 31 = .ok (.ireturn, 1) := by decide +kernel
theorem dX10_does_32 : decode cX10_does 32 = .ok (.aload_n 0, 1) := by decide +kernel
theorem dX10_does_33 : decode cX10_does 33 = .ok (.getfield 13, 3) := by decide +kernel
theorem dX10_does_36 : decode cX10_does 36 = .ok (.bipush 8, 2) := by decide +kernel
theorem dX10_does_38 : decode cX10_does 38 = .ok (.iaload, 1) := by decide +kernel
theorem dX10_does_39 : decode cX10_does 39 = .ok (.sipush 600, 3) := by decide +kernel
theorem dX10_does_42 : decode cX10_does 42 = .ok (.if_icmp .ne 6, 3) := by decide +kernel
theorem dX10_does_45 : decode cX10_does 45 = .ok (.bipush (-3), 2) := by decide +kernel
theorem dX10_does_47 : decode cX10_does 47 = .ok (.ireturn, 1) := by decide +kernel
theorem dX10_does_48 : decode cX10_does 48 = .ok (.aload_n 0, 1) := by decide +kernel
theorem dX10_does_49 : decode cX10_does 49 = .ok (.iload_n 1, 1) := by decide +kernel
theorem dX10_does_50 : decode cX10_does 50 = .ok (.iload_n 2, 1) := by decide +kernel
theorem dX10_does_51 : decode cX10_does 51 = .ok (.iload_n 3, 1) := by decide +kernel
theorem dX10_does_52 : decode cX10_does 52 = .ok (.invokevirtual 368, 3) := by decide +kernel
theorem dX10_does_55 : decode cX10_does 55 = .ok (.ireturn, 1) := by decide +kernel
theorem dX10_meet_0 : decode cX10_meet 0 = .ok (.aload_n 0, 1) := by decide +kernel
theorem dX10_meet_1 : decode cX10_meet 1 = .ok (.iload_n 1, 1) := by decide +kernel
theorem dX10_meet_2 : decode cX10_meet 2 = .ok (.iload_n 2, 1) := by decide +kernel
theorem dX10_meet_3 : decode cX10_meet 3 = .ok (.invokevirtual 315, 3) := by decide +kernel
theorem dX10_meet_6 : decode cX10_meet 6 = .ok (.ifCond .ne 6, 3) := by decide +kernel
theorem dX10_meet_9 : decode cX10_meet 9 = .ok (.bipush (-2), 2) := by decide +kernel
theorem dX10_meet_11 : decode cX10_meet 11 = .ok (.ireturn, 1) := by decide +kernel
theorem dX10_meet_12 : decode cX10_meet 12 = .ok (.aload_n 0, 1) := by decide +kernel
theorem dX10_meet_13 : decode cX10_meet 13 = .ok (.getfield 13, 3) := by decide +kernel
theorem dX10_meet_16 : decode cX10_meet 16 = .ok (.bipush 8, 2) := by decide +kernel
theorem dX10_meet_18 : decode cX10_meet 18 = .ok (.iaload, 1) := by decide +kernel
theorem dX10_meet_19 : decode cX10_meet 19 = .ok (.sipush 600, 3) := by decide +kernel
theorem dX10_meet_22 : decode cX10_meet 22 = .ok (.if_icmp .ne 6, 3) := by decide +kernel
theorem dX10_meet_25 : decode cX10_meet 25 = .ok (.bipush (-3), 2) := by decide +kernel
theorem dX10_meet_27 : decode cX10_meet 27 = .ok (.ireturn, 1) := by decide +kernel
theorem dX10_meet_28 : decode cX10_meet 28 = .ok (.aload_n 0, 1) := by decide +kernel
theorem dX10_meet_29 : decode cX10_meet 29 = .ok (.iload_n 1, 1) := by decide +kernel
theorem dX10_meet_30 : decode cX10_meet 30 = .ok (.iload_n 2, 1) := by decide +kernel
theorem dX10_meet_31 : decode cX10_meet 31 = .ok (.invokevirtual 304, 3) := by decide +kernel
theorem dX10_meet_34 : decode cX10_meet 34 = .ok (.ifCond .eq 7, 3) := by decide +kernel
theorem dX10_meet_37 : decode cX10_meet 37 = .ok (.iconst 0, 1) := by decide +kernel
theorem dX10_meet_38 : decode cX10_meet 38 = .ok (.goto 4, 3) := by decide +kernel
theorem dX10_meet_41 : decode cX10_meet 41 = .ok (.iconst 1, 1) := by decide +kernel
theorem dX10_meet_42 : decode cX10_meet 42 = .ok (.istore_n 3, 1) := by decide +kernel
theorem dX10_meet_43 : decode cX10_meet 43 = .ok (.aload_n 0, 1) := by decide +kernel
theorem dX10_meet_44 : decode cX10_meet 44 = .ok (.iload_n 1, 1) := by decide +kernel
theorem dX10_meet_45 : decode cX10_meet 45 = .ok (.iload_n 2, 1) := by decide +kernel
theorem dX10_meet_46 : decode cX10_meet 46 = .ok (.iconst 4, 1) := by decide +kernel
theorem dX10_meet_47 : decode cX10_meet 47 = .ok (.invokevirtual 368, 3) := by decide +kernel
theorem dX10_meet_50 : decode cX10_meet 50 = .ok (.pop, 1) := by decide +kernel
theorem dX10_meet_51 : decode cX10_meet 51 = .ok (.iload_n 3, 1) := by decide +kernel
theorem dX10_meet_52 : decode cX10_meet 52 = .ok (.ireturn, 1) := by decide +kernel
theorem dX10_done_0 : decode cX10_done 0 = .ok (.iload_n 1, 1) := by decide +kernel
theorem dX10_done_1 : decode cX10_done 1 = .ok (.invokestatic 371, 3) := by decide +kernel
theorem dX10_done_4 : decode cX10_done 4 = .ok (.ifCond .ne 6, 3) := by decide +kernel
theorem dX10_done_7 : decode cX10_done 7 = .ok (.bipush (-2), 2) := by decide +kernel
theorem dX10_done_9 : decode cX10_done 9 = .ok (.ireturn, 1) := by decide +kernel
theorem dX10_done_10 : decode cX10_done 10 = .ok (.aload_n 0, 1) := by decide +kernel
theorem dX10_done_11 : decode cX10_done 11 = .ok (.getfield 86, 3) := by decide +kernel
theorem dX10_done_14 : decode cX10_done 14 = .ok (.iload_n 1, 1) := by decide +kernel
theorem dX10_done_15 : decode cX10_done 15 = .ok (.iaload, 1) := by decide +kernel
theorem dX10_done_16 : decode cX10_done 16 = .ok (.iconst (-1), 1) := by decide +kernel
theorem dX10_done_17 : decode cX10_done 17 = .ok (.if_icmp .ne 6, 3) := by decide +kernel
theorem dX10_done_20 : decode cX10_done 20 = .ok (.bipush (-6), 2) := by decide +kernel
theorem dX10_done_22 : decode cX10_done 22 = .ok (.ireturn, 1) := by decide +kernel
theorem dX10_done_23 : decode cX10_done 23 = .ok (.iconst 0, 1) := by decide +kernel
theorem dX10_done_24 : decode cX10_done 24 = .ok (.istore_n 2, 1) := by decide +kernel
theorem dX10_done_25 : decode cX10_done 25 = .ok (.iconst 0, 1) := by decide +kernel
theorem dX10_done_26 : decode cX10_done 26 = .ok (.istore_n 3, 1) := by decide +kernel
theorem dX10_done_27 : decode cX10_done 27 = .ok (.iload_n 3, 1) := by decide +kernel
theorem dX10_done_28 : decode cX10_done 28 = .ok (.iconst 2, 1) := by decide +kernel
theorem dX10_done_29 : decode cX10_done 29 = .ok (.iadd, 1) := by decide +kernel
theorem dX10_done_30 : decode cX10_done 30 = .ok (.aload_n 0, 1) := by decide +kernel
theorem dX10_done_31 : decode cX10_done 31 = .ok (.getfield 86, 3) := by decide +kernel
theorem dX10_done_34 : decode cX10_done 34 = .ok (.iload_n 1, 1) := by decide +kernel
theorem dX10_done_35 : decode cX10_done 35 = .ok (.iaload, 1) := by decide +kernel
theorem dX10_done_36 : decode cX10_done 36 = .ok (.if_icmp .ge 141, 3) := by decide +kernel
theorem dX10_done_39 : decode cX10_done 39 = .ok (.aload_n 0, 1) := by decide +kernel
theorem dX10_done_40 : decode cX10_done 40 = .ok (.getfield 92, 3) := by decide +kernel
theorem dX10_done_43 : decode cX10_done 43 = .ok (.bipush 60, 2) := by decide +kernel
theorem dX10_done_45 : decode cX10_done 45 = .ok (.iload_n 1, 1) := by decide +kernel
theorem dX10_done_46 : decode cX10_done 46 = .ok (.imul, 1) := by decide +kernel
theorem dX10_done_47 : decode cX10_done 47 = .ok (.iload_n 3, 1) := by decide +kernel
theorem dX10_done_48 : decode cX10_done 48 = .ok (.iadd, 1) := by decide +kernel
theorem dX10_done_49 : decode cX10_done 49 = .ok (.laload, 1) := by decide +kernel
theorem dX10_done_50 : decode cX10_done 50 = .ok (.lstore 4, 2) := by decide +kernel
theorem dX10_done_52 : decode cX10_done 52 = .ok (.aload_n 0, 1) := by decide +kernel
theorem dX10_done_53 : decode cX10_done 53 = .ok (.getfield 92, 3) := by decide +kernel
theorem dX10_done_56 : decode cX10_done 56 = .ok (.bipush 60, 2) := by decide +kernel
theorem dX10_done_58 : decode cX10_done 58 = .ok (.iload_n 1, 1) := by decide +kernel
theorem dX10_done_59 : decode cX10_done 59 = .ok (.imul, 1) := by decide +kernel
theorem dX10_done_60 : decode cX10_done 60 = .ok (.iload_n 3, 1) := by decide +kernel
theorem dX10_done_61 : decode cX10_done 61 = .ok (.iadd, 1) := by decide +kernel
theorem dX10_done_62 : decode cX10_done 62 = .ok (.iconst 1, 1) := by decide +kernel
theorem dX10_done_63 : decode cX10_done 63 = .ok (.iadd, 1) := by decide +kernel
theorem dX10_done_64 : decode cX10_done 64 = .ok (.laload, 1) := by decide +kernel
theorem dX10_done_65 : decode cX10_done 65 = .ok (.lstore 6, 2) := by decide +kernel
theorem dX10_done_67 : decode cX10_done 67 = .ok (.aload_n 0, 1) := by decide +kernel
theorem dX10_done_68 : decode cX10_done 68 = .ok (.getfield 92, 3) := by decide +kernel
theorem dX10_done_71 : decode cX10_done 71 = .ok (.bipush 60, 2) := by decide +kernel
theorem dX10_done_73 : decode cX10_done 73 = .ok (.iload_n 1, 1) := by decide +kernel
theorem dX10_done_74 : decode cX10_done 74 = .ok (.imul, 1) := by decide +kernel
theorem dX10_done_75 : decode cX10_done 75 = .ok (.iload_n 3, 1) := by decide +kernel
theorem dX10_done_76 : decode cX10_done 76 = .ok (.iadd, 1) := by decide +kernel
theorem dX10_done_77 : decode cX10_done 77 = .ok (.iconst 2, 1) := by decide +kernel
theorem dX10_done_78 : decode cX10_done 78 = .ok (.iadd, 1) := by decide +kernel
theorem dX10_done_79 : decode cX10_done 79 = .ok (.laload, 1) := by decide +kernel
theorem dX10_done_80 : decode cX10_done 80 = .ok (.lstore 8, 2) := by decide +kernel
theorem dX10_done_82 : decode cX10_done 82 = .ok (.lload 4, 2) := by decide +kernel
theorem dX10_done_84 : decode cX10_done 84 = .ok (.lconst 0, 1) := by decide +kernel
theorem dX10_done_85 : decode cX10_done 85 = .ok (.ldc2_w 374, 3) := by decide +kernel
theorem dX10_done_88 : decode cX10_done 88 = .ok (.invokestatic 101, 3) := by decide +kernel
theorem dX10_done_91 : decode cX10_done 91 = .ok (.ifCond .eq 80, 3) := by decide +kernel
theorem dX10_done_94 : decode cX10_done 94 = .ok (.lload 6, 2) := by decide +kernel
theorem dX10_done_96 : decode cX10_done 96 = .ok (.lconst 0, 1) := by decide +kernel
theorem dX10_done_97 : decode cX10_done 97 = .ok (.ldc2_w 374, 3) := by decide +kernel
theorem dX10_done_100 : decode cX10_done 100 = .ok (.invokestatic 101, 3) := by decide +kernel
theorem dX10_done_103 : decode cX10_done 103 = .ok (.ifCond .eq 68, 3) := by decide +kernel
theorem dX10_done_106 : decode cX10_done 106 = .ok (.lload 8, 2) := by decide +kernel
theorem dX10_done_108 : decode cX10_done 108 = .ok (.lconst 0, 1) := by decide +kernel
theorem dX10_done_109 : decode cX10_done 109 = .ok (.ldc2_w 376, 3) := by decide +kernel
theorem dX10_done_112 : decode cX10_done 112 = .ok (.invokestatic 101, 3) := by decide +kernel
theorem dX10_done_115 : decode cX10_done 115 = .ok (.ifCond .ne 6, 3) := by decide +kernel
theorem dX10_done_118 : decode cX10_done 118 = .ok (.goto 53, 3) := by decide +kernel
theorem dX10_done_121 : decode cX10_done 121 = .ok (.lload 8, 2) := by decide +kernel
theorem dX10_done_123 : decode cX10_done 123 = .ok (.ldc2_w 376, 3) := by decide +kernel
theorem dX10_done_126 : decode cX10_done 126 = .ok (.lcmp, 1) := by decide +kernel
theorem dX10_done_127 : decode cX10_done 127 = .ok (.ifCond .ne 16, 3) := by decide +kernel
theorem dX10_done_130 : decode cX10_done 130 = .ok (.aload_n 0, 1) := by decide +kernel
theorem dX10_done_131 : decode cX10_done 131 = .ok (.lload 4, 2) := by decide +kernel
theorem dX10_done_133 : decode cX10_done 133 = .ok (.l2i, 1) := by decide +kernel
theorem dX10_done_134 : decode cX10_done 134 = .ok (.lload 6, 2) := by decide +kernel
theorem dX10_done_136 : decode cX10_done 136 = .ok (.l2i, 1) := by decide +kernel
theorem dX10_done_137 : decode cX10_done 137 = .ok (.invokevirtual 378, 3) := by decide +kernel
theorem dX10_done_140 : decode cX10_done 140 = .ok (.goto 16, 3) := by decide +kernel
theorem dX10_done_143 : decode cX10_done 143 = .ok (.aload_n 0, 1) := by decide +kernel
theorem dX10_done_144 : decode cX10_done 144 = .ok (.lload 4, 2) := by decide +kernel
theorem dX10_done_146 : decode cX10_done 146 = .ok (.l2i, 1) := by decide +kernel
theorem dX10_done_147 : decode cX10_done 147 = .ok (.lload 6, 2) := by decide +kernel
theorem dX10_done_149 : decode cX10_done 149 = .ok (.l2i, 1) := by decide +kernel
theorem dX10_done_150 : decode cX10_done 150 = .ok (.lload 8, 2) := by decide +kernel
theorem dX10_done_152 : decode cX10_done 152 = .ok (.l2i, 1) := by decide +kernel
theorem dX10_done_153 : decode cX10_done 153 = .ok (.invokevirtual 381, 3) := by decide +kernel
theorem dX10_done_156 : decode cX10_done 156 = .ok (.istore 10, 2) := by decide +kernel
theorem dX10_done_158 : decode cX10_done 158 = .ok (.iload_n 2, 1) := by decide +kernel
theorem dX10_done_159 : decode cX10_done 159 = .ok (.iload 10, 2) := by decide +kernel
theorem dX10_done_161 : decode cX10_done 161 = .ok (.ifCond .lt 7, 3) := by decide +kernel
theorem dX10_done_164 : decode cX10_done 164 = .ok (.iconst 1, 1) := by decide +kernel
theorem dX10_done_165 : decode cX10_done 165 = .ok (.goto 4, 3) := by decide +kernel
theorem dX10_done_168 : decode cX10_done 168 = .ok (.iconst 0, 1) := by decide +kernel
theorem dX10_done_169 : decode cX10_done 169 = .ok (.iadd, 1) := by decide +kernel
theorem dX10_done_170 : decode cX10_done 170 = .ok (.istore_n 2, 1) := by decide +kernel
theorem dX10_done_171 : decode cX10_done 171 = .ok (.iinc 3 3, 3) := by decide +kernel
theorem dX10_done_174 : decode cX10_done 174 = .ok (.goto (-147), 3) := by decide +kernel
theorem dX10_done_177 : decode cX10_done 177 = .ok (.iload_n 2, 1) := by decide +kernel
theorem dX10_done_178 : decode cX10_done 178 = .ok (.ireturn, 1) := by decide +kernel
theorem dX10_debts_0 : decode cX10_debts 0 = .ok (.aload_n 0, 1) := by decide +kernel
theorem dX10_debts_1 : decode cX10_debts 1 = .ok (.iload_n 1, 1) := by decide +kernel
theorem dX10_debts_2 : decode cX10_debts 2 = .ok (.invokevirtual 105, 3) := by decide +kernel
theorem dX10_debts_5 : decode cX10_debts 5 = .ok (.ifCond .eq 11, 3) := by decide +kernel
theorem dX10_debts_8 : decode cX10_debts 8 = .ok (.aload_n 0, 1) := by decide +kernel
theorem dX10_debts_9 : decode cX10_debts 9 = .ok (.iload_n 1, 1) := by decide +kernel
theorem dX10_debts_10 : decode cX10_debts 10 = .ok (.invokevirtual 339, 3) := by decide +kernel
theorem dX10_debts_13 : decode cX10_debts 13 = .ok (.goto 5, 3) := by decide +kernel
theorem dX10_debts_16 : decode cX10_debts 16 = .ok (.bipush (-2), 2) := by decide +kernel
theorem dX10_debts_18 : decode cX10_debts 18 = .ok (.ireturn, 1) := by decide +kernel
theorem dX10_debt_0 : decode cX10_debt 0 = .ok (.aload_n 0, 1) := by decide +kernel
theorem dX10_debt_1 : decode cX10_debt 1 = .ok (.iload_n 1, 1) := by decide +kernel
theorem dX10_debt_2 : decode cX10_debt 2 = .ok (.invokevirtual 105, 3) := by decide +kernel
theorem dX10_debt_5 : decode cX10_debt 5 = .ok (.ifCond .eq 19, 3) := by decide +kernel
theorem dX10_debt_8 : decode cX10_debt 8 = .ok (.iload_n 2, 1) := by decide +kernel
theorem dX10_debt_9 : decode cX10_debt 9 = .ok (.ifCond .lt 15, 3) := by decide +kernel
theorem dX10_debt_12 : decode cX10_debt 12 = .ok (.iload_n 3, 1) := by decide +kernel
theorem dX10_debt_13 : decode cX10_debt 13 = .ok (.i2l, 1) := by decide +kernel
theorem dX10_debt_14 : decode cX10_debt 14 = .ok (.lconst 0, 1) := by decide +kernel
theorem dX10_debt_15 : decode cX10_debt 15 = .ok (.ldc2_w 313, 3) := by decide +kernel
theorem dX10_debt_18 : decode cX10_debt 18 = .ok (.invokestatic 101, 3) := by decide +kernel
theorem dX10_debt_21 : decode cX10_debt 21 = .ok (.ifCond .ne 5, 3) := by decide +kernel
theorem dX10_debt_24 : decode cX10_debt 24 = .ok (.iconst (-1), 1) := by decide +kernel
theorem dX10_debt_25 : decode cX10_debt 25 = .ok (.ireturn, 1) := by decide +kernel
theorem dX10_debt_26 : decode cX10_debt 26 = .ok (.aload_n 0, 1) := by decide +kernel
theorem dX10_debt_27 : decode cX10_debt 27 = .ok (.iload_n 1, 1) := by decide +kernel
theorem dX10_debt_28 : decode cX10_debt 28 = .ok (.iload_n 2, 1) := by decide +kernel
theorem dX10_debt_29 : decode cX10_debt 29 = .ok (.invokevirtual 384, 3) := by decide +kernel
theorem dX10_debt_32 : decode cX10_debt 32 = .ok (.istore 4, 2) := by decide +kernel
theorem dX10_debt_34 : decode cX10_debt 34 = .ok (.iload 4, 2) := by decide +kernel
theorem dX10_debt_36 : decode cX10_debt 36 = .ok (.iconst (-1), 1) := by decide +kernel
theorem dX10_debt_37 : decode cX10_debt 37 = .ok (.if_icmp .ne 7, 3) := by decide +kernel
theorem dX10_debt_40 : decode cX10_debt 40 = .ok (.iconst (-1), 1) := by decide +kernel
theorem dX10_debt_41 : decode cX10_debt 41 = .ok (.goto 12, 3) := by decide +kernel
theorem dX10_debt_44 : decode cX10_debt 44 = .ok (.aload_n 0, 1) := by decide +kernel
theorem dX10_debt_45 : decode cX10_debt 45 = .ok (.iload 4, 2) := by decide +kernel
theorem dX10_debt_47 : decode cX10_debt 47 = .ok (.iload_n 3, 1) := by decide +kernel
theorem dX10_debt_48 : decode cX10_debt 48 = .ok (.iconst 1, 1) := by decide +kernel
theorem dX10_debt_49 : decode cX10_debt 49 = .ok (.iadd, 1) := by decide +kernel
theorem dX10_debt_50 : decode cX10_debt 50 = .ok (.invokevirtual 325, 3) := by decide +kernel
theorem dX10_debt_53 : decode cX10_debt 53 = .ok (.ireturn, 1) := by decide +kernel
theorem dX10_slights_0 : decode cX10_slights 0 = .ok (.aload_n 0, 1) := by decide +kernel
theorem dX10_slights_1 : decode cX10_slights 1 = .ok (.iload_n 1, 1) := by decide +kernel
theorem dX10_slights_2 : decode cX10_slights 2 = .ok (.invokevirtual 105, 3) := by decide +kernel
theorem dX10_slights_5 : decode cX10_slights 5 = .ok (.ifCond .eq 11, 3) := by decide +kernel
theorem dX10_slights_8 : decode cX10_slights 8 = .ok (.aload_n 0, 1) := by decide +kernel
theorem dX10_slights_9 : decode cX10_slights 9 = .ok (.iload_n 1, 1) := by decide +kernel
theorem dX10_slights_10 : decode cX10_slights 10 = .ok (.invokevirtual 387, 3) := by decide +kernel
theorem dX10_slights_13 : decode cX10_slights 13 = .ok (.goto 5, 3) := by decide +kernel
theorem dX10_slights_16 : decode cX10_slights 16 = .ok (.bipush (-2), 2) := by decide +kernel
theorem dX10_slights_18 : decode cX10_slights 18 = .ok (.ireturn, 1) := by decide +kernel
theorem dX10_first_0 : decode cX10_first 0 = .ok (.iconst (-1), 1) := by decide +kernel
theorem dX10_first_1 : decode cX10_first 1 = .ok (.istore_n 1, 1) := by decide +kernel
theorem dX10_first_2 : decode cX10_first 2 = .ok (.iconst 0, 1) := by decide +kernel
theorem dX10_first_3 : decode cX10_first 3 = .ok (.istore_n 2, 1) := by decide +kernel
theorem dX10_first_4 : decode cX10_first 4 = .ok (.iconst 0, 1) := by decide +kernel
theorem dX10_first_5 : decode cX10_first 5 = .ok (.istore_n 3, 1) := by decide +kernel
theorem dX10_first_6 : decode cX10_first 6 = .ok (.iload_n 3, 1) := by decide +kernel
theorem dX10_first_7 : decode cX10_first 7 = .ok (.aload_n 0, 1) := by decide +kernel
theorem dX10_first_8 : decode cX10_first 8 = .ok (.getfield 13, 3) := by decide +kernel
theorem dX10_first_11 : decode cX10_first 11 = .ok (.iconst 0, 1) := by decide +kernel
theorem dX10_first_12 : decode cX10_first 12 = .ok (.iaload, 1) := by decide +kernel
theorem dX10_first_13 : decode cX10_first 13 = .ok (.if_icmp .ge 56, 3) := by decide +kernel
theorem dX10_first_16 : decode cX10_first 16 = .ok (.aload_n 0, 1) := by decide +kernel
theorem dX10_first_17 : decode cX10_first 17 = .ok (.iload_n 3, 1) := by decide +kernel
theorem dX10_first_18 : decode cX10_first 18 = .ok (.invokevirtual 387, 3) := by decide +kernel
theorem dX10_first_21 : decode cX10_first 21 = .ok (.istore 4, 2) := by decide +kernel
theorem dX10_first_23 : decode cX10_first 23 = .ok (.iload 4, 2) := by decide +kernel
theorem dX10_first_25 : decode cX10_first 25 = .ok (.ifCond .eq 38, 3) := by decide +kernel
theorem dX10_first_28 : decode cX10_first 28 = .ok (.iload 4, 2) := by decide +kernel
theorem dX10_first_30 : decode cX10_first 30 = .ok (.iload_n 2, 1) := by decide +kernel
theorem dX10_first_31 : decode cX10_first 31 = .ok (.if_icmp .lt 32, 3) := by decide +kernel
theorem dX10_first_34 : decode cX10_first 34 = .ok (.iload 4, 2) := by decide +kernel
theorem dX10_first_36 : decode cX10_first 36 = .ok (.iload_n 2, 1) := by decide +kernel
theorem dX10_first_37 : decode cX10_first 37 = .ok (.if_icmp .ne 21, 3) := by decide +kernel
theorem dX10_first_40 : decode cX10_first 40 = .ok (.aload_n 0, 1) := by decide +kernel
theorem dX10_first_41 : decode cX10_first 41 = .ok (.iload_n 3, 1) := by decide +kernel
theorem dX10_first_42 : decode cX10_first 42 = .ok (.iconst 2, 1) := by decide +kernel
theorem dX10_first_43 : decode cX10_first 43 = .ok (.invokevirtual 286, 3) := by decide +kernel
theorem dX10_first_46 : decode cX10_first 46 = .ok (.aload_n 0, 1) := by decide +kernel
theorem dX10_first_47 : decode cX10_first 47 = .ok (.iload_n 1, 1) := by decide +kernel
theorem dX10_first_48 : decode cX10_first 48 = .ok (.iconst 2, 1) := by decide +kernel
theorem dX10_first_49 : decode cX10_first 49 = .ok (.invokevirtual 286, 3) := by decide +kernel
theorem dX10_first_52 : decode cX10_first 52 = .ok (.if_icmp .gt 6, 3) := by decide +kernel
theorem dX10_first_55 : decode cX10_first 55 = .ok (.goto 8, 3) := by decide +kernel
theorem dX10_first_58 : decode cX10_first 58 = .ok (.iload_n 3, 1) := by decide +kernel
theorem dX10_first_59 : decode cX10_first 59 = .ok (.istore_n 1, 1) := by decide +kernel
theorem dX10_first_60 : decode cX10_first 60 = .ok (.iload 4, 2) := by decide +kernel
theorem dX10_first_62 : decode cX10_first 62 = .ok (.istore_n 2, 1) := by decide +kernel
theorem dX10_first_63 : decode cX10_first 63 = .ok (.iinc 3 1, 3) := by decide +kernel
theorem dX10_first_66 : decode cX10_first 66 = .ok (.goto (-60), 3) := by decide +kernel
theorem dX10_first_69 : decode cX10_first 69 = .ok (.iload_n 1, 1) := by decide +kernel
theorem dX10_first_70 : decode cX10_first 70 = .ok (.ireturn, 1) := by decide +kernel
theorem dX10_owes_0 : decode cX10_owes 0 = .ok (.aload_n 0, 1) := by decide +kernel
theorem dX10_owes_1 : decode cX10_owes 1 = .ok (.iload_n 1, 1) := by decide +kernel
theorem dX10_owes_2 : decode cX10_owes 2 = .ok (.iload_n 2, 1) := by decide +kernel
theorem dX10_owes_3 : decode cX10_owes 3 = .ok (.invokevirtual 315, 3) := by decide +kernel
theorem dX10_owes_6 : decode cX10_owes 6 = .ok (.ifCond .eq 10, 3) := by decide +kernel
theorem dX10_owes_9 : decode cX10_owes 9 = .ok (.iload_n 3, 1) := by decide +kernel
theorem dX10_owes_10 : decode cX10_owes 10 = .ok (.invokestatic 318, 3) := by decide +kernel
theorem dX10_owes_13 : decode cX10_owes 13 = .ok (.ifCond .ne 6, 3) := by decide +kernel
theorem dX10_owes_16 : decode cX10_owes 16 = .ok (.bipush (-2), 2) := by decide +kernel
theorem dX10_owes_18 : decode cX10_owes 18 = .ok (.ireturn, 1) := by decide +kernel
theorem dX10_owes_19 : decode cX10_owes 19 = .ok (.aload_n 0, 1) := by decide +kernel
theorem dX10_owes_20 : decode cX10_owes 20 = .ok (.iload_n 1, 1) := by decide +kernel
theorem dX10_owes_21 : decode cX10_owes 21 = .ok (.iload_n 2, 1) := by decide +kernel
theorem dX10_owes_22 : decode cX10_owes 22 = .ok (.iload_n 3, 1) := by decide +kernel
theorem dX10_owes_23 : decode cX10_owes 23 = .ok (.aload_n 0, 1) := by decide +kernel
theorem dX10_owes_24 : decode cX10_owes 24 = .ok (.iload_n 1, 1) := by decide +kernel
theorem dX10_owes_25 : decode cX10_owes 25 = .ok (.iload_n 2, 1) := by decide +kernel
theorem dX10_owes_26 : decode cX10_owes 26 = .ok (.invokevirtual 304, 3) := by decide +kernel
theorem dX10_owes_29 : decode cX10_owes 29 = .ok (.aload_n 0, 1) := by decide +kernel
theorem dX10_owes_30 : decode cX10_owes 30 = .ok (.invokevirtual 291, 3) := by decide +kernel
theorem dX10_owes_33 : decode cX10_owes 33 = .ok (.invokevirtual 352, 3) := by decide +kernel
theorem dX10_owes_36 : decode cX10_owes 36 = .ok (.istore 4, 2) := by decide +kernel
theorem dX10_owes_38 : decode cX10_owes 38 = .ok (.iload 4, 2) := by decide +kernel
theorem dX10_owes_40 : decode cX10_owes 40 = .ok (.iconst (-1), 1) := by decide +kernel
theorem dX10_owes_41 : decode cX10_owes 41 = .ok (.if_icmp .ne 5, 3) := by decide +kernel
theorem dX10_owes_44 : decode cX10_owes 44 = .ok (.iconst (-1), 1) := by decide +kernel
theorem dX10_owes_45 : decode cX10_owes 45 = .ok (.ireturn, 1) := by decide +kernel
theorem dX10_owes_46 : decode cX10_owes 46 = .ok (.aload_n 0, 1) := by decide +kernel
theorem dX10_owes_47 : decode cX10_owes 47 = .ok (.getfield 13, 3) := by decide +kernel
theorem dX10_owes_50 : decode cX10_owes 50 = .ok (.sipush 154, 3) := by decide +kernel
theorem dX10_owes_53 : decode cX10_owes 53 = .ok (.iconst 5, 1) := by decide +kernel
theorem dX10_owes_54 : decode cX10_owes 54 = .ok (.iload 4, 2) := by decide +kernel
theorem dX10_owes_56 : decode cX10_owes 56 = .ok (.imul, 1) := by decide +kernel
theorem dX10_owes_57 : decode cX10_owes 57 = .ok (.iadd, 1) := by decide +kernel
theorem dX10_owes_58 : decode cX10_owes 58 = .ok (.iconst 1, 1) := by decide +kernel
theorem dX10_owes_59 : decode cX10_owes 59 = .ok (.iadd, 1) := by decide +kernel
theorem dX10_owes_60 : decode cX10_owes 60 = .ok (.iaload, 1) := by decide +kernel
theorem dX10_owes_61 : decode cX10_owes 61 = .ok (.istore 5, 2) := by decide +kernel
theorem dX10_owes_63 : decode cX10_owes 63 = .ok (.aload_n 0, 1) := by decide +kernel
theorem dX10_owes_64 : decode cX10_owes 64 = .ok (.iload_n 2, 1) := by decide +kernel
theorem dX10_owes_65 : decode cX10_owes 65 = .ok (.iload_n 1, 1) := by decide +kernel
theorem dX10_owes_66 : decode cX10_owes 66 = .ok (.iload 5, 2) := by decide +kernel
theorem dX10_owes_68 : decode cX10_owes 68 = .ok (.invokevirtual 356, 3) := by decide +kernel
theorem dX10_owes_71 : decode cX10_owes 71 = .ok (.ifCond .eq 7, 3) := by decide +kernel
theorem dX10_owes_74 : decode cX10_owes 74 = .ok (.iconst (-1), 1) := by decide +kernel
theorem dX10_owes_75 : decode cX10_owes 75 = .ok (.goto 5, 3) := by decide +kernel
theorem dX10_owes_78 : decode cX10_owes 78 = .ok (.iload 5, 2) := by decide +kernel
theorem dX10_owes_80 : decode cX10_owes 80 = .ok (.ireturn, 1) := by decide +kernel
theorem dX10_isRound_0 : decode cX10_isRound 0 = .ok (.aload_n 0, 1) := by decide +kernel
theorem dX10_isRound_1 : decode cX10_isRound 1 = .ok (.iload_n 1, 1) := by decide +kernel
theorem dX10_isRound_2 : decode cX10_isRound 2 = .ok (.invokevirtual 105, 3) := by decide +kernel
theorem dX10_isRound_5 : decode cX10_isRound 5 = .ok (.ifCond .eq 23, 3) := by decide +kernel
theorem dX10_isRound_8 : decode cX10_isRound 8 = .ok (.iload_n 2, 1) := by decide +kernel
theorem dX10_isRound_9 : decode cX10_isRound 9 = .ok (.i2l, 1) := by decide +kernel
theorem dX10_isRound_10 : decode cX10_isRound 10 = .ok (.aload_n 0, 1) := by decide +kernel
theorem dX10_isRound_11 : decode cX10_isRound 11 = .ok (.invokevirtual 291, 3) := by decide +kernel
theorem dX10_isRound_14 : decode cX10_isRound 14 = .ok (.i2l, 1) := by decide +kernel
theorem dX10_isRound_15 : decode cX10_isRound 15 = .ok (.ldc2_w 427, 3) := by decide +kernel
theorem dX10_isRound_18 : decode cX10_isRound 18 = .ok (.invokestatic 101, 3) := by decide +kernel
theorem dX10_isRound_21 : decode cX10_isRound 21 = .ok (.ifCond .eq 7, 3) := by decide +kernel
theorem dX10_isRound_24 : decode cX10_isRound 24 = .ok (.iconst 1, 1) := by decide +kernel
theorem dX10_isRound_25 : decode cX10_isRound 25 = .ok (.goto 4, 3) := by decide +kernel
theorem dX10_isRound_28 : decode cX10_isRound 28 = .ok (.iconst 0, 1) := by decide +kernel
theorem dX10_isRound_29 : decode cX10_isRound 29 = .ok (.ireturn, 1) := by decide +kernel
theorem dX10_worth_0 : decode cX10_worth 0 = .ok (.aload_n 0, 1) := by decide +kernel
theorem dX10_worth_1 : decode cX10_worth 1 = .ok (.iload_n 1, 1) := by decide +kernel
theorem dX10_worth_2 : decode cX10_worth 2 = .ok (.iload_n 2, 1) := by decide +kernel
theorem dX10_worth_3 : decode cX10_worth 3 = .ok (.invokevirtual 429, 3) := by decide +kernel
theorem dX10_worth_6 : decode cX10_worth 6 = .ok (.ifCond .ne 6, 3) := by decide +kernel
theorem dX10_worth_9 : decode cX10_worth 9 = .ok (.bipush (-2), 2) := by decide +kernel
theorem dX10_worth_11 : decode cX10_worth 11 = .ok (.ireturn, 1) := by decide +kernel
theorem dX10_worth_12 : decode cX10_worth 12 = .ok (.aload_n 0, 1) := by decide +kernel
theorem dX10_worth_13 : decode cX10_worth 13 = .ok (.iload_n 1, 1) := by decide +kernel
theorem dX10_worth_14 : decode cX10_worth 14 = .ok (.iload_n 2, 1) := by decide +kernel
theorem dX10_worth_15 : decode cX10_worth 15 = .ok (.invokevirtual 432, 3) := by decide +kernel
theorem dX10_worth_18 : decode cX10_worth 18 = .ok (.aload_n 0, 1) := by decide +kernel
theorem dX10_worth_19 : decode cX10_worth 19 = .ok (.getfield 421, 3) := by decide +kernel
theorem dX10_worth_22 : decode cX10_worth 22 = .ok (.ireturn, 1) := by decide +kernel
theorem dX10_over_0 : decode cX10_over 0 = .ok (.aload_n 0, 1) := by decide +kernel
theorem dX10_over_1 : decode cX10_over 1 = .ok (.iload_n 1, 1) := by decide +kernel
theorem dX10_over_2 : decode cX10_over 2 = .ok (.iload_n 2, 1) := by decide +kernel
theorem dX10_over_3 : decode cX10_over 3 = .ok (.invokevirtual 429, 3) := by decide +kernel
theorem dX10_over_6 : decode cX10_over 6 = .ok (.ifCond .ne 6, 3) := by decide +kernel
theorem dX10_over_9 : decode cX10_over 9 = .ok (.bipush (-2), 2) := by decide +kernel
theorem dX10_over_11 : decode cX10_over 11 = .ok (.ireturn, 1) := by decide +kernel
theorem dX10_over_12 : decode cX10_over 12 = .ok (.aload_n 0, 1) := by decide +kernel
theorem dX10_over_13 : decode cX10_over 13 = .ok (.iload_n 1, 1) := by decide +kernel
theorem dX10_over_14 : decode cX10_over 14 = .ok (.iload_n 2, 1) := by decide +kernel
theorem dX10_over_15 : decode cX10_over 15 = .ok (.invokevirtual 432, 3) := by decide +kernel
theorem dX10_over_18 : decode cX10_over 18 = .ok (.aload_n 0, 1) := by decide +kernel
theorem dX10_over_19 : decode cX10_over 19 = .ok (.getfield 418, 3) := by decide +kernel
theorem dX10_over_22 : decode cX10_over 22 = .ok (.ireturn, 1) := by decide +kernel
theorem dX10_round_0 : decode cX10_round 0 = .ok (.aload_n 0, 1) := by decide +kernel
theorem dX10_round_1 : decode cX10_round 1 = .ok (.iload_n 1, 1) := by decide +kernel
theorem dX10_round_2 : decode cX10_round 2 = .ok (.iload_n 2, 1) := by decide +kernel
theorem dX10_round_3 : decode cX10_round 3 = .ok (.invokevirtual 429, 3) := by decide +kernel
theorem dX10_round_6 : decode cX10_round 6 = .ok (.ifCond .ne 6, 3) := by decide +kernel
theorem dX10_round_9 : decode cX10_round 9 = .ok (.bipush (-2), 2) := by decide +kernel
theorem dX10_round_11 : decode cX10_round 11 = .ok (.ireturn, 1) := by decide +kernel
theorem dX10_round_12 : decode cX10_round 12 = .ok (.aload_n 0, 1) := by decide +kernel
theorem dX10_round_13 : decode cX10_round 13 = .ok (.iload_n 1, 1) := by decide +kernel
theorem dX10_round_14 : decode cX10_round 14 = .ok (.iload_n 2, 1) := by decide +kernel
theorem dX10_round_15 : decode cX10_round 15 = .ok (.invokevirtual 432, 3) := by decide +kernel
theorem dX10_round_18 : decode cX10_round 18 = .ok (.aload_n 0, 1) := by decide +kernel
theorem dX10_round_19 : decode cX10_round 19 = .ok (.getfield 415, 3) := by decide +kernel
theorem dX10_round_22 : decode cX10_round 22 = .ok (.invokestatic 298, 3) := by decide +kernel
theorem dX10_round_25 : decode cX10_round 25 = .ok (.istore 4, 2) := by decide +kernel
theorem dX10_round_27 : decode cX10_round 27 = .ok (.iload_n 3, 1) := by decide +kernel
theorem dX10_round_28 : decode cX10_round 28 = .ok (.i2l, 1) := by decide +kernel
theorem dX10_round_29 : decode cX10_round 29 = .ok (.lconst 0, 1) := by decide +kernel
theorem dX10_round_30 : decode cX10_round 30 = .ok (.iload 4, 2) := by decide +kernel
theorem dX10_round_32 : decode cX10_round 32 = .ok (.iconst 1, 1) := by decide +kernel
theorem dX10_round_33 : decode cX10_round 33 = .ok (.isub, 1) := by decide +kernel
theorem dX10_round_34 : decode cX10_round 34 = .ok (.i2l, 1) := by decide +kernel
theorem dX10_round_35 : decode cX10_round 35 = .ok (.invokestatic 101, 3) := by decide +kernel
theorem dX10_round_38 : decode cX10_round 38 = .ok (.ifCond .ne 5, 3) := by decide +kernel
theorem dX10_round_41 : decode cX10_round 41 = .ok (.iconst (-1), 1) := by decide +kernel
theorem dX10_round_42 : decode cX10_round 42 = .ok (.ireturn, 1) := by decide +kernel
theorem dX10_round_43 : decode cX10_round 43 = .ok (.aload_n 0, 1) := by decide +kernel
theorem dX10_round_44 : decode cX10_round 44 = .ok (.iload_n 1, 1) := by decide +kernel
theorem dX10_round_45 : decode cX10_round 45 = .ok (.iload_n 2, 1) := by decide +kernel
theorem dX10_round_46 : decode cX10_round 46 = .ok (.invokevirtual 435, 3) := by decide +kernel
theorem dX10_round_49 : decode cX10_round 49 = .ok (.aload_n 0, 1) := by decide +kernel
theorem dX10_round_50 : decode cX10_round 50 = .ok (.getfield 52, 3) := by decide +kernel
theorem dX10_round_53 : decode cX10_round 53 = .ok (.iload_n 3, 1) := by decide +kernel
theorem dX10_round_54 : decode cX10_round 54 = .ok (.iaload, 1) := by decide +kernel
theorem dX10_round_55 : decode cX10_round 55 = .ok (.ireturn, 1) := by decide +kernel
theorem dX10_may_0 : decode cX10_may 0 = .ok (.iload_n 1, 1) := by decide +kernel
theorem dX10_may_1 : decode cX10_may 1 = .ok (.invokestatic 371, 3) := by decide +kernel
theorem dX10_may_4 : decode cX10_may 4 = .ok (.ifCond .eq 12, 3) := by decide +kernel
theorem dX10_may_7 : decode cX10_may 7 = .ok (.aload_n 0, 1) := by decide +kernel
theorem dX10_may_8 : decode cX10_may 8 = .ok (.iload_n 2, 1) := by decide +kernel
theorem dX10_may_9 : decode cX10_may 9 = .ok (.iload_n 3, 1) := by decide +kernel
theorem dX10_may_10 : decode cX10_may 10 = .ok (.invokevirtual 429, 3) := by decide +kernel
theorem dX10_may_13 : decode cX10_may 13 = .ok (.ifCond .ne 6, 3) := by decide +kernel
theorem dX10_may_16 : decode cX10_may 16 = .ok (.bipush (-2), 2) := by decide +kernel
theorem dX10_may_18 : decode cX10_may 18 = .ok (.ireturn, 1) := by decide +kernel
theorem dX10_may_19 : decode cX10_may 19 = .ok (.aload_n 0, 1) := by decide +kernel
theorem dX10_may_20 : decode cX10_may 20 = .ok (.getfield 86, 3) := by decide +kernel
theorem dX10_may_23 : decode cX10_may 23 = .ok (.iload_n 1, 1) := by decide +kernel
theorem dX10_may_24 : decode cX10_may 24 = .ok (.iaload, 1) := by decide +kernel
theorem dX10_may_25 : decode cX10_may 25 = .ok (.iconst (-1), 1) := by decide +kernel
theorem dX10_may_26 : decode cX10_may 26 = .ok (.if_icmp .ne 6, 3) := by decide +kernel
theorem dX10_may_29 : decode cX10_may 29 = .ok (.bipush (-6), 2) := by decide +kernel
theorem dX10_may_31 : decode cX10_may 31 = .ok (.ireturn, 1) := by decide +kernel
theorem dX10_may_32 : decode cX10_may 32 = .ok (.aload_n 0, 1) := by decide +kernel
theorem dX10_may_33 : decode cX10_may 33 = .ok (.iload_n 2, 1) := by decide +kernel
theorem dX10_may_34 : decode cX10_may 34 = .ok (.invokevirtual 390, 3) := by decide +kernel
theorem dX10_may_37 : decode cX10_may 37 = .ok (.iconst 0, 1) := by decide +kernel
theorem dX10_may_38 : decode cX10_may 38 = .ok (.istore 4, 2) := by decide +kernel
theorem dX10_may_40 : decode cX10_may 40 = .ok (.iload_n 2, 1) := by decide +kernel
theorem dX10_may_41 : decode cX10_may 41 = .ok (.istore 5, 2) := by decide +kernel
theorem dX10_may_43 : decode cX10_may 43 = .ok (.iconst 0, 1) := by decide +kernel
theorem dX10_may_44 : decode cX10_may 44 = .ok (.istore 6, 2) := by decide +kernel
theorem dX10_may_46 : decode cX10_may 46 = .ok (.iconst 0, 1) := by decide +kernel
theorem dX10_may_47 : decode cX10_may 47 = .ok (.istore 7, 2) := by decide +kernel
theorem dX10_may_49 : decode cX10_may 49 = .ok (.iload 7, 2) := by decide +kernel
theorem dX10_may_51 : decode cX10_may 51 = .ok (.aload_n 0, 1) := by decide +kernel
theorem dX10_may_52 : decode cX10_may 52 = .ok (.getfield 86, 3) := by decide +kernel
theorem dX10_may_55 : decode cX10_may 55 = .ok (.iload_n 1, 1) := by decide +kernel
theorem dX10_may_56 : decode cX10_may 56 = .ok (.iaload, 1) := by decide +kernel
theorem dX10_may_57 : decode cX10_may 57 = .ok (.if_icmp .ge 104, 3) := by decide +kernel
theorem dX10_may_60 : decode cX10_may 60 = .ok (.aload_n 0, 1) := by decide +kernel
theorem dX10_may_61 : decode cX10_may 61 = .ok (.getfield 92, 3) := by decide +kernel
theorem dX10_may_64 : decode cX10_may 64 = .ok (.bipush 60, 2) := by decide +kernel
theorem dX10_may_66 : decode cX10_may 66 = .ok (.iload_n 1, 1) := by decide +kernel
theorem dX10_may_67 : decode cX10_may 67 = .ok (.imul, 1) := by decide +kernel
theorem dX10_may_68 : decode cX10_may 68 = .ok (.iload 7, 2) := by decide +kernel
theorem dX10_may_70 : decode cX10_may 70 = .ok (.iadd, 1) := by decide +kernel
theorem dX10_may_71 : decode cX10_may 71 = .ok (.laload, 1) := by decide +kernel
theorem dX10_may_72 : decode cX10_may 72 = .ok (.lstore 8, 2) := by decide +kernel
theorem dX10_may_74 : decode cX10_may 74 = .ok (.lload 8, 2) := by decide +kernel
theorem dX10_may_76 : decode cX10_may 76 = .ok (.lconst 0, 1) := by decide +kernel
theorem dX10_may_77 : decode cX10_may 77 = .ok (.aload_n 0, 1) := by decide +kernel
theorem dX10_may_78 : decode cX10_may 78 = .ok (.getfield 13, 3) := by decide +kernel
theorem dX10_may_81 : decode cX10_may 81 = .ok (.iconst 0, 1) := by decide +kernel
theorem dX10_may_82 : decode cX10_may 82 = .ok (.iaload, 1) := by decide +kernel
theorem dX10_may_83 : decode cX10_may 83 = .ok (.iconst 1, 1) := by decide +kernel
theorem dX10_may_84 : decode cX10_may 84 = .ok (.isub, 1) := by decide +kernel
theorem dX10_may_85 : decode cX10_may 85 = .ok (.i2l, 1) := by decide +kernel
theorem dX10_may_86 : decode cX10_may 86 = .ok (.invokestatic 101, 3) := by decide +kernel
theorem dX10_may_89 : decode cX10_may 89 = .ok (.ifCond .ne 5, 3) := by decide +kernel
theorem dX10_may_92 : decode cX10_may 92 = .ok (.iconst 0, 1) := by decide +kernel
theorem dX10_may_93 : decode cX10_may 93 = .ok (.ireturn, 1) := by decide +kernel
theorem dX10_may_94 : decode cX10_may 94 = .ok (.lload 8, 2) := by decide +kernel
theorem dX10_may_96 : decode cX10_may 96 = .ok (.l2i, 1) := by decide +kernel
theorem dX10_may_97 : decode cX10_may 97 = .ok (.istore 10, 2) := by decide +kernel
theorem dX10_may_99 : decode cX10_may 99 = .ok (.iload 4, 2) := by decide +kernel
theorem dX10_may_101 : decode cX10_may 101 = .ok (.iload 10, 2) := by decide +kernel
theorem dX10_may_103 : decode cX10_may 103 = .ok (.invokestatic 294, 3) := by decide +kernel
theorem dX10_may_106 : decode cX10_may 106 = .ok (.ifCond .ne 13, 3) := by decide +kernel
theorem dX10_may_109 : decode cX10_may 109 = .ok (.aload_n 0, 1) := by decide +kernel
theorem dX10_may_110 : decode cX10_may 110 = .ok (.getfield 43, 3) := by decide +kernel
theorem dX10_may_113 : decode cX10_may 113 = .ok (.iload 10, 2) := by decide +kernel
theorem dX10_may_115 : decode cX10_may 115 = .ok (.iaload, 1) := by decide +kernel
theorem dX10_may_116 : decode cX10_may 116 = .ok (.ifCond .ne 5, 3) := by decide +kernel
theorem dX10_may_119 : decode cX10_may 119 = .ok (.iconst 0, 1) := by decide +kernel
theorem dX10_may_120 : decode cX10_may 120 = .ok (.ireturn, 1) := by decide +kernel
theorem dX10_may_121 : decode cX10_may 121 = .ok (.iload 4, 2) := by decide +kernel
theorem dX10_may_123 : decode cX10_may 123 = .ok (.iconst 1, 1) := by decide +kernel
theorem dX10_may_124 : decode cX10_may 124 = .ok (.iload 10, 2) := by decide +kernel
theorem dX10_may_126 : decode cX10_may 126 = .ok (.ishl, 1) := by decide +kernel
theorem dX10_may_127 : decode cX10_may 127 = .ok (.ior, 1) := by decide +kernel
theorem dX10_may_128 : decode cX10_may 128 = .ok (.istore 4, 2) := by decide +kernel
theorem dX10_may_130 : decode cX10_may 130 = .ok (.aload_n 0, 1) := by decide +kernel
theorem dX10_may_131 : decode cX10_may 131 = .ok (.iload 5, 2) := by decide +kernel
theorem dX10_may_133 : decode cX10_may 133 = .ok (.iload 6, 2) := by decide +kernel
theorem dX10_may_135 : decode cX10_may 135 = .ok (.iload 10, 2) := by decide +kernel
theorem dX10_may_137 : decode cX10_may 137 = .ok (.iload_n 3, 1) := by decide +kernel
theorem dX10_may_138 : decode cX10_may 138 = .ok (.invokevirtual 405, 3) := by decide +kernel
theorem dX10_may_141 : decode cX10_may 141 = .ok (.istore 6, 2) := by decide +kernel
theorem dX10_may_143 : decode cX10_may 143 = .ok (.iload 6, 2) := by decide +kernel
theorem dX10_may_145 : decode cX10_may 145 = .ok (.iconst (-1), 1) := by decide +kernel
theorem dX10_may_146 : decode cX10_may 146 = .ok (.if_icmp .ne 5, 3) := by decide +kernel
theorem dX10_may_149 : decode cX10_may 149 = .ok (.iconst 0, 1) := by decide +kernel
theorem dX10_may_150 : decode cX10_may 150 = .ok (.ireturn, 1) := by decide +kernel
theorem dX10_may_151 : decode cX10_may 151 = .ok (.iload 10, 2) := by decide +kernel
theorem dX10_may_153 : decode cX10_may 153 = .ok (.istore 5, 2) := by decide +kernel
theorem dX10_may_155 : decode cX10_may 155 = .ok (.iinc 7 1, 3) := by decide +kernel
theorem dX10_may_158 : decode cX10_may 158 = .ok (.goto (-109), 3) := by decide +kernel
theorem dX10_may_161 : decode cX10_may 161 = .ok (.iconst 1, 1) := by decide +kernel
theorem dX10_may_162 : decode cX10_may 162 = .ok (.ireturn, 1) := by decide +kernel
theorem dX10_fewest_0 : decode cX10_fewest 0 = .ok (.aload_n 0, 1) := by decide +kernel
theorem dX10_fewest_1 : decode cX10_fewest 1 = .ok (.iload_n 1, 1) := by decide +kernel
theorem dX10_fewest_2 : decode cX10_fewest 2 = .ok (.invokevirtual 105, 3) := by decide +kernel
theorem dX10_fewest_5 : decode cX10_fewest 5 = .ok (.ifCond .ne 6, 3) := by decide +kernel
theorem dX10_fewest_8 : decode cX10_fewest 8 = .ok (.bipush (-2), 2) := by decide +kernel
theorem dX10_fewest_10 : decode cX10_fewest 10 = .ok (.ireturn, 1) := by decide +kernel
theorem dX10_fewest_11 : decode cX10_fewest 11 = .ok (.aload_n 0, 1) := by decide +kernel
theorem dX10_fewest_12 : decode cX10_fewest 12 = .ok (.iload_n 1, 1) := by decide +kernel
theorem dX10_fewest_13 : decode cX10_fewest 13 = .ok (.invokevirtual 441, 3) := by decide +kernel
theorem dX10_fewest_16 : decode cX10_fewest 16 = .ok (.iconst 1, 1) := by decide +kernel
theorem dX10_fewest_17 : decode cX10_fewest 17 = .ok (.aload_n 0, 1) := by decide +kernel
theorem dX10_fewest_18 : decode cX10_fewest 18 = .ok (.getfield 438, 3) := by decide +kernel
theorem dX10_fewest_21 : decode cX10_fewest 21 = .ok (.ishl, 1) := by decide +kernel
theorem dX10_fewest_22 : decode cX10_fewest 22 = .ok (.iconst 1, 1) := by decide +kernel
theorem dX10_fewest_23 : decode cX10_fewest 23 = .ok (.isub, 1) := by decide +kernel
theorem dX10_fewest_24 : decode cX10_fewest 24 = .ok (.istore_n 2, 1) := by decide +kernel
theorem dX10_fewest_25 : decode cX10_fewest 25 = .ok (.iconst 0, 1) := by decide +kernel
theorem dX10_fewest_26 : decode cX10_fewest 26 = .ok (.istore_n 3, 1) := by decide +kernel
theorem dX10_fewest_27 : decode cX10_fewest 27 = .ok (.iload_n 3, 1) := by decide +kernel
theorem dX10_fewest_28 : decode cX10_fewest 28 = .ok (.iload_n 2, 1) := by decide +kernel
theorem dX10_fewest_29 : decode cX10_fewest 29 = .ok (.if_icmp .gt 24, 3) := by decide +kernel
theorem dX10_fewest_32 : decode cX10_fewest 32 = .ok (.aload_n 0, 1) := by decide +kernel
theorem dX10_fewest_33 : decode cX10_fewest 33 = .ok (.getfield 58, 3) := by decide +kernel
theorem dX10_fewest_36 : decode cX10_fewest 36 = .ok (.iload_n 3, 1) := by decide +kernel
theorem dX10_fewest_37 : decode cX10_fewest 37 = .ok (.iload_n 3, 1) := by decide +kernel
theorem dX10_fewest_38 : decode cX10_fewest 38 = .ok (.ifCond .ne 7, 3) := by decide +kernel
theorem dX10_fewest_41 : decode cX10_fewest 41 = .ok (.iconst 0, 1) := by decide +kernel
theorem dX10_fewest_42 : decode cX10_fewest 42 = .ok (.goto 4, 3) := by decide +kernel
theorem dX10_fewest_45 : decode cX10_fewest 45 = .ok (.iconst (-1), 1) := by decide +kernel
theorem dX10_fewest_46 : decode cX10_fewest 46 = .ok (.iastore, 1) := by decide +kernel
theorem dX10_fewest_47 : decode cX10_fewest 47 = .ok (.iinc 3 1, 3) := by decide +kernel
theorem dX10_fewest_50 : decode cX10_fewest 50 = .ok (.goto (-23), 3) := by decide +kernel
theorem dX10_fewest_53 : decode cX10_fewest 53 = .ok (.aload_n 0, 1) := by decide +kernel
theorem dX10_fewest_54 : decode cX10_fewest 54 = .ok (.invokevirtual 291, 3) := by decide +kernel
theorem dX10_fewest_57 : decode cX10_fewest 57 = .ok (.istore_n 3, 1) := by decide +kernel
theorem dX10_fewest_58 : decode cX10_fewest 58 = .ok (.iload_n 3, 1) := by decide +kernel
theorem dX10_fewest_59 : decode cX10_fewest 59 = .ok (.sipush 399, 3) := by decide +kernel
theorem dX10_fewest_62 : decode cX10_fewest 62 = .ok (.aload_n 0, 1) := by decide +kernel
theorem dX10_fewest_63 : decode cX10_fewest 63 = .ok (.invokevirtual 291, 3) := by decide +kernel
theorem dX10_fewest_66 : decode cX10_fewest 66 = .ok (.bipush 6, 2) := by decide +kernel
theorem dX10_fewest_68 : decode cX10_fewest 68 = .ok (.iadd, 1) := by decide +kernel
theorem dX10_fewest_69 : decode cX10_fewest 69 = .ok (.invokestatic 139, 3) := by decide +kernel
theorem dX10_fewest_72 : decode cX10_fewest 72 = .ok (.if_icmp .gt 185, 3) := by decide +kernel
theorem dX10_fewest_75 : decode cX10_fewest 75 = .ok (.aload_n 0, 1) := by decide +kernel
theorem dX10_fewest_76 : decode cX10_fewest 76 = .ok (.iload_n 1, 1) := by decide +kernel
theorem dX10_fewest_77 : decode cX10_fewest 77 = .ok (.iconst 0, 1) := by decide +kernel
theorem dX10_fewest_78 : decode cX10_fewest 78 = .ok (.iconst 1, 1) := by decide +kernel
theorem dX10_fewest_79 : decode cX10_fewest 79 = .ok (.aload_n 0, 1) := by decide +kernel
theorem dX10_fewest_80 : decode cX10_fewest 80 = .ok (.getfield 393, 3) := by decide +kernel
theorem dX10_fewest_83 : decode cX10_fewest 83 = .ok (.ishl, 1) := by decide +kernel
theorem dX10_fewest_84 : decode cX10_fewest 84 = .ok (.iconst 1, 1) := by decide +kernel
theorem dX10_fewest_85 : decode cX10_fewest 85 = .ok (.isub, 1) := by decide +kernel
theorem dX10_fewest_86 : decode cX10_fewest 86 = .ok (.iload_n 3, 1) := by decide +kernel
theorem dX10_fewest_87 : decode cX10_fewest 87 = .ok (.invokevirtual 411, 3) := by decide +kernel
theorem dX10_fewest_90 : decode cX10_fewest 90 = .ok (.iconst 1, 1) := by decide +kernel
theorem dX10_fewest_91 : decode cX10_fewest 91 = .ok (.istore 4, 2) := by decide +kernel
theorem dX10_fewest_93 : decode cX10_fewest 93 = .ok (.iload 4, 2) := by decide +kernel
theorem dX10_fewest_95 : decode cX10_fewest 95 = .ok (.iconst 1, 1) := by decide +kernel
theorem dX10_fewest_96 : decode cX10_fewest 96 = .ok (.aload_n 0, 1) := by decide +kernel
theorem dX10_fewest_97 : decode cX10_fewest 97 = .ok (.getfield 393, 3) := by decide +kernel
theorem dX10_fewest_100 : decode cX10_fewest 100 = .ok (.ishl, 1) := by decide +kernel
theorem dX10_fewest_101 : decode cX10_fewest 101 = .ok (.if_icmp .ge 37, 3) := by decide +kernel
theorem dX10_fewest_104 : decode cX10_fewest 104 = .ok (.aload_n 0, 1) := by decide +kernel
theorem dX10_fewest_105 : decode cX10_fewest 105 = .ok (.getfield 61, 3) := by decide +kernel
theorem dX10_fewest_108 : decode cX10_fewest 108 = .ok (.iload 4, 2) := by decide +kernel
theorem dX10_fewest_110 : decode cX10_fewest 110 = .ok (.aload_n 0, 1) := by decide +kernel
theorem dX10_fewest_111 : decode cX10_fewest 111 = .ok (.iload 4, 2) := by decide +kernel
theorem dX10_fewest_113 : decode cX10_fewest 113 = .ok (.invokevirtual 424, 3) := by decide +kernel
theorem dX10_fewest_116 : decode cX10_fewest 116 = .ok (.iconst (-1), 1) := by decide +kernel
theorem dX10_fewest_117 : decode cX10_fewest 117 = .ok (.if_icmp .ne 7, 3) := by decide +kernel
theorem dX10_fewest_120 : decode cX10_fewest 120 = .ok (.iconst 0, 1) := by decide +kernel
theorem dX10_fewest_121 : decode cX10_fewest 121 = .ok (.goto 10, 3) := by decide +kernel
theorem dX10_fewest_124 : decode cX10_fewest 124 = .ok (.aload_n 0, 1) := by decide +kernel
theorem dX10_fewest_125 : decode cX10_fewest 125 = .ok (.iload 4, 2) := by decide +kernel
theorem dX10_fewest_127 : decode cX10_fewest 127 = .ok (.iload_n 3, 1) := by decide +kernel
theorem dX10_fewest_128 : decode cX10_fewest 128 = .ok (.invokevirtual 444, 3) := by decide +kernel
theorem dX10_fewest_131 : decode cX10_fewest 131 = .ok (.iastore, 1) := by decide +kernel
theorem dX10_fewest_132 : decode cX10_fewest 132 = .ok (.iinc 4 1, 3) := by decide +kernel
theorem dX10_fewest_135 : decode cX10_fewest 135 = .ok (.goto (-42), 3) := by decide +kernel
theorem dX10_fewest_138 : decode cX10_fewest 138 = .ok (.iload_n 2, 1) := by decide +kernel
theorem dX10_fewest_139 : decode cX10_fewest 139 = .ok (.istore 4, 2) := by decide +kernel
theorem dX10_fewest_141 : decode cX10_fewest 141 = .ok (.iload 4, 2) := by decide +kernel
theorem dX10_fewest_143 : decode cX10_fewest 143 = .ok (.ifCond .lt 108, 3) := by decide +kernel
theorem dX10_fewest_146 : decode cX10_fewest 146 = .ok (.aload_n 0, 1) := by decide +kernel
theorem dX10_fewest_147 : decode cX10_fewest 147 = .ok (.getfield 58, 3) := by decide +kernel
theorem dX10_fewest_150 : decode cX10_fewest 150 = .ok (.iload 4, 2) := by decide +kernel
theorem dX10_fewest_152 : decode cX10_fewest 152 = .ok (.iaload, 1) := by decide +kernel
theorem dX10_fewest_153 : decode cX10_fewest 153 = .ok (.iconst (-1), 1) := by decide +kernel
theorem dX10_fewest_154 : decode cX10_fewest 154 = .ok (.if_icmp .ne 6, 3) := by decide +kernel
theorem dX10_fewest_157 : decode cX10_fewest 157 = .ok (.goto 88, 3) := by decide +kernel
theorem dX10_fewest_160 : decode cX10_fewest 160 = .ok (.iconst 1, 1) := by decide +kernel
theorem dX10_fewest_161 : decode cX10_fewest 161 = .ok (.istore 5, 2) := by decide +kernel
theorem dX10_fewest_163 : decode cX10_fewest 163 = .ok (.iload 5, 2) := by decide +kernel
theorem dX10_fewest_165 : decode cX10_fewest 165 = .ok (.iconst 1, 1) := by decide +kernel
theorem dX10_fewest_166 : decode cX10_fewest 166 = .ok (.aload_n 0, 1) := by decide +kernel
theorem dX10_fewest_167 : decode cX10_fewest 167 = .ok (.getfield 393, 3) := by decide +kernel
theorem dX10_fewest_170 : decode cX10_fewest 170 = .ok (.ishl, 1) := by decide +kernel
theorem dX10_fewest_171 : decode cX10_fewest 171 = .ok (.if_icmp .ge 74, 3) := by decide +kernel
theorem dX10_fewest_174 : decode cX10_fewest 174 = .ok (.iload 4, 2) := by decide +kernel
theorem dX10_fewest_176 : decode cX10_fewest 176 = .ok (.aload_n 0, 1) := by decide +kernel
theorem dX10_fewest_177 : decode cX10_fewest 177 = .ok (.getfield 61, 3) := by decide +kernel
theorem dX10_fewest_180 : decode cX10_fewest 180 = .ok (.iload 5, 2) := by decide +kernel
theorem dX10_fewest_182 : decode cX10_fewest 182 = .ok (.iaload, 1) := by decide +kernel
theorem dX10_fewest_183 : decode cX10_fewest 183 = .ok (.ior, 1) := by decide +kernel
theorem dX10_fewest_184 : decode cX10_fewest 184 = .ok (.istore 6, 2) := by decide +kernel
theorem dX10_fewest_186 : decode cX10_fewest 186 = .ok (.iload 6, 2) := by decide +kernel
theorem dX10_fewest_188 : decode cX10_fewest 188 = .ok (.iload 4, 2) := by decide +kernel
theorem dX10_fewest_190 : decode cX10_fewest 190 = .ok (.if_icmp .eq 49, 3) := by decide +kernel
theorem dX10_fewest_193 : decode cX10_fewest 193 = .ok (.aload_n 0, 1) := by decide +kernel
theorem dX10_fewest_194 : decode cX10_fewest 194 = .ok (.getfield 58, 3) := by decide +kernel
theorem dX10_fewest_197 : decode cX10_fewest 197 = .ok (.iload 6, 2) := by decide +kernel
theorem dX10_fewest_199 : decode cX10_fewest 199 = .ok (.iaload, 1) := by decide +kernel
theorem dX10_fewest_200 : decode cX10_fewest 200 = .ok (.iconst (-1), 1) := by decide +kernel
theorem dX10_fewest_201 : decode cX10_fewest 201 = .ok (.if_icmp .eq 22, 3) := by decide +kernel
theorem dX10_fewest_204 : decode cX10_fewest 204 = .ok (.aload_n 0, 1) := by decide +kernel
theorem dX10_fewest_205 : decode cX10_fewest 205 = .ok (.getfield 58, 3) := by decide +kernel
theorem dX10_fewest_208 : decode cX10_fewest 208 = .ok (.iload 6, 2) := by decide +kernel
theorem dX10_fewest_210 : decode cX10_fewest 210 = .ok (.iaload, 1) := by decide +kernel
theorem dX10_fewest_211 : decode cX10_fewest 211 = .ok (.aload_n 0, 1) := by decide +kernel
theorem dX10_fewest_212 : decode cX10_fewest 212 = .ok (.getfield 58, 3) := by decide +kernel
theorem dX10_fewest_215 : decode cX10_fewest 215 = .ok (.iload 4, 2) := by decide +kernel
theorem dX10_fewest_217 : decode cX10_fewest 217 = .ok (.iaload, 1) := by decide +kernel
theorem dX10_fewest_218 : decode cX10_fewest 218 = .ok (.iconst 1, 1) := by decide +kernel
theorem dX10_fewest_219 : decode cX10_fewest 219 = .ok (.iadd, 1) := by decide +kernel
theorem dX10_fewest_220 : decode cX10_fewest 220 = .ok (.if_icmp .le 19, 3) := by decide +kernel
theorem dX10_fewest_223 : decode cX10_fewest 223 = .ok (.aload_n 0, 1) := by decide +kernel
theorem dX10_fewest_224 : decode cX10_fewest 224 = .ok (.getfield 58, 3) := by decide +kernel
theorem dX10_fewest_227 : decode cX10_fewest 227 = .ok (.iload 6, 2) := by decide +kernel
theorem dX10_fewest_229 : decode cX10_fewest 229 = .ok (.aload_n 0, 1) := by decide +kernel
theorem dX10_fewest_230 : decode cX10_fewest 230 = .ok (.getfield 58, 3) := by decide +kernel
theorem dX10_fewest_233 : decode cX10_fewest 233 = .ok (.iload 4, 2) := by decide +kernel
theorem dX10_fewest_235 : decode cX10_fewest 235 = .ok (.iaload, 1) := by decide +kernel
theorem dX10_fewest_236 : decode cX10_fewest 236 = .ok (.iconst 1, 1) := by decide +kernel
theorem dX10_fewest_237 : decode cX10_fewest 237 = .ok (.iadd, 1) := by decide +kernel
theorem dX10_fewest_238 : decode cX10_fewest 238 = .ok (.iastore, 1) := by decide +kernel
theorem dX10_fewest_239 : decode cX10_fewest 239 = .ok (.iinc 5 1, 3) := by decide +kernel
theorem dX10_fewest_242 : decode cX10_fewest 242 = .ok (.goto (-79), 3) := by decide +kernel
theorem dX10_fewest_245 : decode cX10_fewest 245 = .ok (.iinc 4 (-1), 3) := by decide +kernel
theorem dX10_fewest_248 : decode cX10_fewest 248 = .ok (.goto (-107), 3) := by decide +kernel
theorem dX10_fewest_251 : decode cX10_fewest 251 = .ok (.iinc 3 1, 3) := by decide +kernel
theorem dX10_fewest_254 : decode cX10_fewest 254 = .ok (.goto (-196), 3) := by decide +kernel
theorem dX10_fewest_257 : decode cX10_fewest 257 = .ok (.aload_n 0, 1) := by decide +kernel
theorem dX10_fewest_258 : decode cX10_fewest 258 = .ok (.getfield 58, 3) := by decide +kernel
theorem dX10_fewest_261 : decode cX10_fewest 261 = .ok (.iload_n 2, 1) := by decide +kernel
theorem dX10_fewest_262 : decode cX10_fewest 262 = .ok (.iaload, 1) := by decide +kernel
theorem dX10_fewest_263 : decode cX10_fewest 263 = .ok (.ireturn, 1) := by decide +kernel
theorem dX10_lost_0 : decode cX10_lost 0 = .ok (.aload_n 0, 1) := by decide +kernel
theorem dX10_lost_1 : decode cX10_lost 1 = .ok (.iload_n 1, 1) := by decide +kernel
theorem dX10_lost_2 : decode cX10_lost 2 = .ok (.invokevirtual 105, 3) := by decide +kernel
theorem dX10_lost_5 : decode cX10_lost 5 = .ok (.ifCond .ne 6, 3) := by decide +kernel
theorem dX10_lost_8 : decode cX10_lost 8 = .ok (.bipush (-2), 2) := by decide +kernel
theorem dX10_lost_10 : decode cX10_lost 10 = .ok (.ireturn, 1) := by decide +kernel
theorem dX10_lost_11 : decode cX10_lost 11 = .ok (.aload_n 0, 1) := by decide +kernel
theorem dX10_lost_12 : decode cX10_lost 12 = .ok (.iload_n 1, 1) := by decide +kernel
theorem dX10_lost_13 : decode cX10_lost 13 = .ok (.invokevirtual 441, 3) := by decide +kernel
theorem dX10_lost_16 : decode cX10_lost 16 = .ok (.iconst 0, 1) := by decide +kernel
theorem dX10_lost_17 : decode cX10_lost 17 = .ok (.istore_n 2, 1) := by decide +kernel
theorem dX10_lost_18 : decode cX10_lost 18 = .ok (.iconst 0, 1) := by decide +kernel
theorem dX10_lost_19 : decode cX10_lost 19 = .ok (.istore_n 3, 1) := by decide +kernel
theorem dX10_lost_20 : decode cX10_lost 20 = .ok (.iload_n 3, 1) := by decide +kernel
theorem dX10_lost_21 : decode cX10_lost 21 = .ok (.aload_n 0, 1) := by decide +kernel
theorem dX10_lost_22 : decode cX10_lost 22 = .ok (.getfield 438, 3) := by decide +kernel
theorem dX10_lost_25 : decode cX10_lost 25 = .ok (.if_icmp .ge 106, 3) := by decide +kernel
theorem dX10_lost_28 : decode cX10_lost 28 = .ok (.iconst 0, 1) := by decide +kernel
theorem dX10_lost_29 : decode cX10_lost 29 = .ok (.istore 4, 2) := by decide +kernel
theorem dX10_lost_31 : decode cX10_lost 31 = .ok (.aload_n 0, 1) := by decide +kernel
theorem dX10_lost_32 : decode cX10_lost 32 = .ok (.invokevirtual 291, 3) := by decide +kernel
theorem dX10_lost_35 : decode cX10_lost 35 = .ok (.istore 5, 2) := by decide +kernel
theorem dX10_lost_37 : decode cX10_lost 37 = .ok (.iload 5, 2) := by decide +kernel
theorem dX10_lost_39 : decode cX10_lost 39 = .ok (.sipush 399, 3) := by decide +kernel
theorem dX10_lost_42 : decode cX10_lost 42 = .ok (.aload_n 0, 1) := by decide +kernel
theorem dX10_lost_43 : decode cX10_lost 43 = .ok (.invokevirtual 291, 3) := by decide +kernel
theorem dX10_lost_46 : decode cX10_lost 46 = .ok (.bipush 6, 2) := by decide +kernel
theorem dX10_lost_48 : decode cX10_lost 48 = .ok (.iadd, 1) := by decide +kernel
theorem dX10_lost_49 : decode cX10_lost 49 = .ok (.invokestatic 139, 3) := by decide +kernel
theorem dX10_lost_52 : decode cX10_lost 52 = .ok (.aload_n 0, 1) := by decide +kernel
theorem dX10_lost_53 : decode cX10_lost 53 = .ok (.aload_n 0, 1) := by decide +kernel
theorem dX10_lost_54 : decode cX10_lost 54 = .ok (.getfield 55, 3) := by decide +kernel
theorem dX10_lost_57 : decode cX10_lost 57 = .ok (.iload_n 3, 1) := by decide +kernel
theorem dX10_lost_58 : decode cX10_lost 58 = .ok (.iaload, 1) := by decide +kernel
theorem dX10_lost_59 : decode cX10_lost 59 = .ok (.iconst 3, 1) := by decide +kernel
theorem dX10_lost_60 : decode cX10_lost 60 = .ok (.invokevirtual 325, 3) := by decide +kernel
theorem dX10_lost_63 : decode cX10_lost 63 = .ok (.invokestatic 139, 3) := by decide +kernel
theorem dX10_lost_66 : decode cX10_lost 66 = .ok (.if_icmp .gt 44, 3) := by decide +kernel
theorem dX10_lost_69 : decode cX10_lost 69 = .ok (.iload 4, 2) := by decide +kernel
theorem dX10_lost_71 : decode cX10_lost 71 = .ok (.ifCond .ne 26, 3) := by decide +kernel
theorem dX10_lost_74 : decode cX10_lost 74 = .ok (.aload_n 0, 1) := by decide +kernel
theorem dX10_lost_75 : decode cX10_lost 75 = .ok (.iload_n 1, 1) := by decide +kernel
theorem dX10_lost_76 : decode cX10_lost 76 = .ok (.iconst 0, 1) := by decide +kernel
theorem dX10_lost_77 : decode cX10_lost 77 = .ok (.aload_n 0, 1) := by decide +kernel
theorem dX10_lost_78 : decode cX10_lost 78 = .ok (.aload_n 0, 1) := by decide +kernel
theorem dX10_lost_79 : decode cX10_lost 79 = .ok (.getfield 55, 3) := by decide +kernel
theorem dX10_lost_82 : decode cX10_lost 82 = .ok (.iload_n 3, 1) := by decide +kernel
theorem dX10_lost_83 : decode cX10_lost 83 = .ok (.iaload, 1) := by decide +kernel
theorem dX10_lost_84 : decode cX10_lost 84 = .ok (.iconst 1, 1) := by decide +kernel
theorem dX10_lost_85 : decode cX10_lost 85 = .ok (.invokevirtual 325, 3) := by decide +kernel
theorem dX10_lost_88 : decode cX10_lost 88 = .ok (.iload 5, 2) := by decide +kernel
theorem dX10_lost_90 : decode cX10_lost 90 = .ok (.invokevirtual 405, 3) := by decide +kernel
theorem dX10_lost_93 : decode cX10_lost 93 = .ok (.iconst (-1), 1) := by decide +kernel
theorem dX10_lost_94 : decode cX10_lost 94 = .ok (.if_icmp .eq 7, 3) := by decide +kernel
theorem dX10_lost_97 : decode cX10_lost 97 = .ok (.iconst 1, 1) := by decide +kernel
theorem dX10_lost_98 : decode cX10_lost 98 = .ok (.goto 4, 3) := by decide +kernel
theorem dX10_lost_101 : decode cX10_lost 101 = .ok (.iconst 0, 1) := by decide +kernel
theorem dX10_lost_102 : decode cX10_lost 102 = .ok (.istore 4, 2) := by decide +kernel
theorem dX10_lost_104 : decode cX10_lost 104 = .ok (.iinc 5 1, 3) := by decide +kernel
theorem dX10_lost_107 : decode cX10_lost 107 = .ok (.goto (-70), 3) := by decide +kernel
theorem dX10_lost_110 : decode cX10_lost 110 = .ok (.iload_n 2, 1) := by decide +kernel
theorem dX10_lost_111 : decode cX10_lost 111 = .ok (.iload 4, 2) := by decide +kernel
theorem dX10_lost_113 : decode cX10_lost 113 = .ok (.ifCond .eq 7, 3) := by decide +kernel
theorem dX10_lost_116 : decode cX10_lost 116 = .ok (.iconst 0, 1) := by decide +kernel
theorem dX10_lost_117 : decode cX10_lost 117 = .ok (.goto 6, 3) := by decide +kernel
theorem dX10_lost_120 : decode cX10_lost 120 = .ok (.iconst 1, 1) := by decide +kernel
theorem dX10_lost_121 : decode cX10_lost 121 = .ok (.iload_n 3, 1) := by decide +kernel
theorem dX10_lost_122 : decode cX10_lost 122 = .ok (.ishl, 1) := by decide +kernel
theorem dX10_lost_123 : decode cX10_lost 123 = .ok (.ior, 1) := by decide +kernel
theorem dX10_lost_124 : decode cX10_lost 124 = .ok (.istore_n 2, 1) := by decide +kernel
theorem dX10_lost_125 : decode cX10_lost 125 = .ok (.iinc 3 1, 3) := by decide +kernel
theorem dX10_lost_128 : decode cX10_lost 128 = .ok (.goto (-108), 3) := by decide +kernel
theorem dX10_lost_131 : decode cX10_lost 131 = .ok (.iload_n 2, 1) := by decide +kernel
theorem dX10_lost_132 : decode cX10_lost 132 = .ok (.ireturn, 1) := by decide +kernel
theorem dX10_soon_0 : decode cX10_soon 0 = .ok (.aload_n 0, 1) := by decide +kernel
theorem dX10_soon_1 : decode cX10_soon 1 = .ok (.iload_n 1, 1) := by decide +kernel
theorem dX10_soon_2 : decode cX10_soon 2 = .ok (.iload_n 2, 1) := by decide +kernel
theorem dX10_soon_3 : decode cX10_soon 3 = .ok (.invokevirtual 315, 3) := by decide +kernel
theorem dX10_soon_6 : decode cX10_soon 6 = .ok (.ifCond .ne 6, 3) := by decide +kernel
theorem dX10_soon_9 : decode cX10_soon 9 = .ok (.bipush (-2), 2) := by decide +kernel
theorem dX10_soon_11 : decode cX10_soon 11 = .ok (.ireturn, 1) := by decide +kernel
theorem dX10_soon_12 : decode cX10_soon 12 = .ok (.aload_n 0, 1) := by decide +kernel
theorem dX10_soon_13 : decode cX10_soon 13 = .ok (.iload_n 1, 1) := by decide +kernel
theorem dX10_soon_14 : decode cX10_soon 14 = .ok (.iload_n 2, 1) := by decide +kernel
theorem dX10_soon_15 : decode cX10_soon 15 = .ok (.invokevirtual 304, 3) := by decide +kernel
theorem dX10_soon_18 : decode cX10_soon 18 = .ok (.ifCond .eq 5, 3) := by decide +kernel
theorem dX10_soon_21 : decode cX10_soon 21 = .ok (.iconst 0, 1) := by decide +kernel
theorem dX10_soon_22 : decode cX10_soon 22 = .ok (.ireturn, 1) := by decide +kernel
theorem dX10_soon_23 : decode cX10_soon 23 = .ok (.aload_n 0, 1) := by decide +kernel
theorem dX10_soon_24 : decode cX10_soon 24 = .ok (.iload_n 1, 1) := by decide +kernel
theorem dX10_soon_25 : decode cX10_soon 25 = .ok (.iload_n 2, 1) := by decide +kernel
theorem dX10_soon_26 : decode cX10_soon 26 = .ok (.invokevirtual 453, 3) := by decide +kernel
theorem dX10_soon_29 : decode cX10_soon 29 = .ok (.ifCond .eq 10, 3) := by decide +kernel
theorem dX10_soon_32 : decode cX10_soon 32 = .ok (.aload_n 0, 1) := by decide +kernel
theorem dX10_soon_33 : decode cX10_soon 33 = .ok (.getfield 450, 3) := by decide +kernel
theorem dX10_soon_36 : decode cX10_soon 36 = .ok (.goto 4, 3) := by decide +kernel
theorem dX10_soon_39 : decode cX10_soon 39 = .ok (.iconst (-1), 1) := by decide +kernel
theorem dX10_soon_40 : decode cX10_soon 40 = .ok (.ireturn, 1) := by decide +kernel
theorem dX10_path_0 : decode cX10_path 0 = .ok (.aload_n 0, 1) := by decide +kernel
theorem dX10_path_1 : decode cX10_path 1 = .ok (.iload_n 1, 1) := by decide +kernel
theorem dX10_path_2 : decode cX10_path 2 = .ok (.iload_n 2, 1) := by decide +kernel
theorem dX10_path_3 : decode cX10_path 3 = .ok (.invokevirtual 315, 3) := by decide +kernel
theorem dX10_path_6 : decode cX10_path 6 = .ok (.ifCond .ne 6, 3) := by decide +kernel
theorem dX10_path_9 : decode cX10_path 9 = .ok (.bipush (-2), 2) := by decide +kernel
theorem dX10_path_11 : decode cX10_path 11 = .ok (.ireturn, 1) := by decide +kernel
theorem dX10_path_12 : decode cX10_path 12 = .ok (.aload_n 0, 1) := by decide +kernel
theorem dX10_path_13 : decode cX10_path 13 = .ok (.iload_n 1, 1) := by decide +kernel
theorem dX10_path_14 : decode cX10_path 14 = .ok (.iload_n 2, 1) := by decide +kernel
theorem dX10_path_15 : decode cX10_path 15 = .ok (.invokevirtual 304, 3) := by decide +kernel
theorem dX10_path_18 : decode cX10_path 18 = .ok (.ifCond .ne 37, 3) := by decide +kernel
theorem dX10_path_21 : decode cX10_path 21 = .ok (.aload_n 0, 1) := by decide +kernel
theorem dX10_path_22 : decode cX10_path 22 = .ok (.iload_n 1, 1) := by decide +kernel
theorem dX10_path_23 : decode cX10_path 23 = .ok (.iload_n 2, 1) := by decide +kernel
theorem dX10_path_24 : decode cX10_path 24 = .ok (.invokevirtual 453, 3) := by decide +kernel
theorem dX10_path_27 : decode cX10_path 27 = .ok (.ifCond .eq 28, 3) := by decide +kernel
theorem dX10_path_30 : decode cX10_path 30 = .ok (.iload_n 3, 1) := by decide +kernel
theorem dX10_path_31 : decode cX10_path 31 = .ok (.i2l, 1) := by decide +kernel
theorem dX10_path_32 : decode cX10_path 32 = .ok (.lconst 0, 1) := by decide +kernel
theorem dX10_path_33 : decode cX10_path 33 = .ok (.aload_n 0, 1) := by decide +kernel
theorem dX10_path_34 : decode cX10_path 34 = .ok (.getfield 450, 3) := by decide +kernel
theorem dX10_path_37 : decode cX10_path 37 = .ok (.iconst 1, 1) := by decide +kernel
theorem dX10_path_38 : decode cX10_path 38 = .ok (.isub, 1) := by decide +kernel
theorem dX10_path_39 : decode cX10_path 39 = .ok (.i2l, 1) := by decide +kernel
theorem dX10_path_40 : decode cX10_path 40 = .ok (.invokestatic 101, 3) := by decide +kernel
theorem dX10_path_43 : decode cX10_path 43 = .ok (.ifCond .eq 12, 3) := by decide +kernel
theorem dX10_path_46 : decode cX10_path 46 = .ok (.aload_n 0, 1) := by decide +kernel
theorem dX10_path_47 : decode cX10_path 47 = .ok (.getfield 77, 3) := by decide +kernel
theorem dX10_path_50 : decode cX10_path 50 = .ok (.iload_n 3, 1) := by decide +kernel
theorem dX10_path_51 : decode cX10_path 51 = .ok (.iaload, 1) := by decide +kernel
theorem dX10_path_52 : decode cX10_path 52 = .ok (.goto 4, 3) := by decide +kernel
theorem dX10_path_55 : decode cX10_path 55 = .ok (.iconst (-1), 1) := by decide +kernel
theorem dX10_path_56 : decode cX10_path 56 = .ok (.ireturn, 1) := by decide +kernel
theorem dX10_reach_0 : decode cX10_reach 0 = .ok (.aload_n 0, 1) := by decide +kernel
theorem dX10_reach_1 : decode cX10_reach 1 = .ok (.iload_n 1, 1) := by decide +kernel
theorem dX10_reach_2 : decode cX10_reach 2 = .ok (.invokevirtual 105, 3) := by decide +kernel
theorem dX10_reach_5 : decode cX10_reach 5 = .ok (.ifCond .eq 13, 3) := by decide +kernel
theorem dX10_reach_8 : decode cX10_reach 8 = .ok (.aload_n 0, 1) := by decide +kernel
theorem dX10_reach_9 : decode cX10_reach 9 = .ok (.iload_n 1, 1) := by decide +kernel
theorem dX10_reach_10 : decode cX10_reach 10 = .ok (.iconst (-1), 1) := by decide +kernel
theorem dX10_reach_11 : decode cX10_reach 11 = .ok (.iconst (-1), 1) := by decide +kernel
theorem dX10_reach_12 : decode cX10_reach 12 = .ok (.invokevirtual 456, 3) := by decide +kernel
theorem dX10_reach_15 : decode cX10_reach 15 = .ok (.goto 5, 3) := by decide +kernel
theorem dX10_reach_18 : decode cX10_reach 18 = .ok (.bipush (-2), 2) := by decide +kernel
theorem dX10_reach_20 : decode cX10_reach 20 = .ok (.ireturn, 1) := by decide +kernel
theorem dX10_drop_0 : decode cX10_drop 0 = .ok (.aload_n 0, 1) := by decide +kernel
theorem dX10_drop_1 : decode cX10_drop 1 = .ok (.iload_n 1, 1) := by decide +kernel
theorem dX10_drop_2 : decode cX10_drop 2 = .ok (.invokevirtual 105, 3) := by decide +kernel
theorem dX10_drop_5 : decode cX10_drop 5 = .ok (.ifCond .ne 6, 3) := by decide +kernel
theorem dX10_drop_8 : decode cX10_drop 8 = .ok (.bipush (-2), 2) := by decide +kernel
theorem dX10_drop_10 : decode cX10_drop 10 = .ok (.ireturn, 1) := by decide +kernel
theorem dX10_drop_11 : decode cX10_drop 11 = .ok (.aload_n 0, 1) := by decide +kernel
theorem dX10_drop_12 : decode cX10_drop 12 = .ok (.iload_n 1, 1) := by decide +kernel
theorem dX10_drop_13 : decode cX10_drop 13 = .ok (.invokevirtual 390, 3) := by decide +kernel
theorem dX10_drop_16 : decode cX10_drop 16 = .ok (.iconst (-1), 1) := by decide +kernel
theorem dX10_drop_17 : decode cX10_drop 17 = .ok (.istore_n 2, 1) := by decide +kernel
theorem dX10_drop_18 : decode cX10_drop 18 = .ok (.aload_n 0, 1) := by decide +kernel
theorem dX10_drop_19 : decode cX10_drop 19 = .ok (.iload_n 1, 1) := by decide +kernel
theorem dX10_drop_20 : decode cX10_drop 20 = .ok (.iconst (-1), 1) := by decide +kernel
theorem dX10_drop_21 : decode cX10_drop 21 = .ok (.iconst (-1), 1) := by decide +kernel
theorem dX10_drop_22 : decode cX10_drop 22 = .ok (.invokevirtual 456, 3) := by decide +kernel
theorem dX10_drop_25 : decode cX10_drop 25 = .ok (.invokestatic 298, 3) := by decide +kernel
theorem dX10_drop_28 : decode cX10_drop 28 = .ok (.istore_n 3, 1) := by decide +kernel
theorem dX10_drop_29 : decode cX10_drop 29 = .ok (.iconst 0, 1) := by decide +kernel
theorem dX10_drop_30 : decode cX10_drop 30 = .ok (.istore 4, 2) := by decide +kernel
theorem dX10_drop_32 : decode cX10_drop 32 = .ok (.iload 4, 2) := by decide +kernel
theorem dX10_drop_34 : decode cX10_drop 34 = .ok (.aload_n 0, 1) := by decide +kernel
theorem dX10_drop_35 : decode cX10_drop 35 = .ok (.getfield 13, 3) := by decide +kernel
theorem dX10_drop_38 : decode cX10_drop 38 = .ok (.iconst 0, 1) := by decide +kernel
theorem dX10_drop_39 : decode cX10_drop 39 = .ok (.iaload, 1) := by decide +kernel
theorem dX10_drop_40 : decode cX10_drop 40 = .ok (.if_icmp .ge 71, 3) := by decide +kernel
theorem dX10_drop_43 : decode cX10_drop 43 = .ok (.aload_n 0, 1) := by decide +kernel
theorem dX10_drop_44 : decode cX10_drop 44 = .ok (.iload_n 1, 1) := by decide +kernel
theorem dX10_drop_45 : decode cX10_drop 45 = .ok (.iload 4, 2) := by decide +kernel
theorem dX10_drop_47 : decode cX10_drop 47 = .ok (.invokevirtual 304, 3) := by decide +kernel
theorem dX10_drop_50 : decode cX10_drop 50 = .ok (.ifCond .eq 55, 3) := by decide +kernel
theorem dX10_drop_53 : decode cX10_drop 53 = .ok (.aload_n 0, 1) := by decide +kernel
theorem dX10_drop_54 : decode cX10_drop 54 = .ok (.getfield 43, 3) := by decide +kernel
theorem dX10_drop_57 : decode cX10_drop 57 = .ok (.iload 4, 2) := by decide +kernel
theorem dX10_drop_59 : decode cX10_drop 59 = .ok (.iaload, 1) := by decide +kernel
theorem dX10_drop_60 : decode cX10_drop 60 = .ok (.ifCond .gt 45, 3) := by decide +kernel
theorem dX10_drop_63 : decode cX10_drop 63 = .ok (.aload_n 0, 1) := by decide +kernel
theorem dX10_drop_64 : decode cX10_drop 64 = .ok (.iload_n 1, 1) := by decide +kernel
theorem dX10_drop_65 : decode cX10_drop 65 = .ok (.iload_n 1, 1) := by decide +kernel
theorem dX10_drop_66 : decode cX10_drop 66 = .ok (.iload 4, 2) := by decide +kernel
theorem dX10_drop_68 : decode cX10_drop 68 = .ok (.invokevirtual 456, 3) := by decide +kernel
theorem dX10_drop_71 : decode cX10_drop 71 = .ok (.invokestatic 298, 3) := by decide +kernel
theorem dX10_drop_74 : decode cX10_drop 74 = .ok (.iload_n 3, 1) := by decide +kernel
theorem dX10_drop_75 : decode cX10_drop 75 = .ok (.if_icmp .eq 6, 3) := by decide +kernel
theorem dX10_drop_78 : decode cX10_drop 78 = .ok (.goto 27, 3) := by decide +kernel
theorem dX10_drop_81 : decode cX10_drop 81 = .ok (.iload_n 2, 1) := by decide +kernel
theorem dX10_drop_82 : decode cX10_drop 82 = .ok (.iconst (-1), 1) := by decide +kernel
theorem dX10_drop_83 : decode cX10_drop 83 = .ok (.if_icmp .eq 19, 3) := by decide +kernel
theorem dX10_drop_86 : decode cX10_drop 86 = .ok (.aload_n 0, 1) := by decide +kernel
theorem dX10_drop_87 : decode cX10_drop 87 = .ok (.iload 4, 2) := by decide +kernel
theorem dX10_drop_89 : decode cX10_drop 89 = .ok (.iconst 2, 1) := by decide +kernel
theorem dX10_drop_90 : decode cX10_drop 90 = .ok (.invokevirtual 286, 3) := by decide +kernel
theorem dX10_drop_93 : decode cX10_drop 93 = .ok (.aload_n 0, 1) := by decide +kernel
theorem dX10_drop_94 : decode cX10_drop 94 = .ok (.iload_n 2, 1) := by decide +kernel
theorem dX10_drop_95 : decode cX10_drop 95 = .ok (.iconst 2, 1) := by decide +kernel
theorem dX10_drop_96 : decode cX10_drop 96 = .ok (.invokevirtual 286, 3) := by decide +kernel
theorem dX10_drop_99 : decode cX10_drop 99 = .ok (.if_icmp .ge 6, 3) := by decide +kernel
theorem dX10_drop_102 : decode cX10_drop 102 = .ok (.iload 4, 2) := by decide +kernel
