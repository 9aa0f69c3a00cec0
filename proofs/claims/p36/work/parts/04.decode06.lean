theorem dX4_fewestDays_17 : decode cX4_fewestDays 17 = .ok (.aload_n 1, 1) := by decide +kernel
theorem dX4_fewestDays_18 : decode cX4_fewestDays 18 = .ok (.iload_n 2, 1) := by decide +kernel
theorem dX4_fewestDays_19 : decode cX4_fewestDays 19 = .ok (.invokevirtual 77, 3) := by decide +kernel
theorem dX4_fewestDays_22 : decode cX4_fewestDays 22 = .ok (.iconst 1, 1) := by decide +kernel
theorem dX4_fewestDays_23 : decode cX4_fewestDays 23 = .ok (.aload_n 0, 1) := by decide +kernel
theorem dX4_fewestDays_24 : decode cX4_fewestDays 24 = .ok (.getfield 53, 3) := by decide +kernel
theorem dX4_fewestDays_27 : decode cX4_fewestDays 27 = .ok (.ishl, 1) := by decide +kernel
theorem dX4_fewestDays_28 : decode cX4_fewestDays 28 = .ok (.iconst 1, 1) := by decide +kernel
theorem dX4_fewestDays_29 : decode cX4_fewestDays 29 = .ok (.isub, 1) := by decide +kernel
theorem dX4_fewestDays_30 : decode cX4_fewestDays 30 = .ok (.istore_n 3, 1) := by decide +kernel
theorem dX4_fewestDays_31 : decode cX4_fewestDays 31 = .ok (.iconst 1, 1) := by decide +kernel
theorem dX4_fewestDays_32 : decode cX4_fewestDays 32 = .ok (.istore 4, 2) := by decide +kernel
theorem dX4_fewestDays_34 : decode cX4_fewestDays 34 = .ok (.iload 4, 2) := by decide +kernel
theorem dX4_fewestDays_36 : decode cX4_fewestDays 36 = .ok (.iload_n 3, 1) := by decide +kernel
theorem dX4_fewestDays_37 : decode cX4_fewestDays 37 = .ok (.if_icmp .gt 19, 3) := by decide +kernel
theorem dX4_fewestDays_40 : decode cX4_fewestDays 40 = .ok (.aload_n 0, 1) := by decide +kernel
theorem dX4_fewestDays_41 : decode cX4_fewestDays 41 = .ok (.getfield 46, 3) := by decide +kernel
theorem dX4_fewestDays_44 : decode cX4_fewestDays 44 = .ok (.iload 4, 2) := by decide +kernel
theorem dX4_fewestDays_46 : decode cX4_fewestDays 46 = .ok (.sipush 1000, 3) := by decide +kernel
theorem dX4_fewestDays_49 : decode cX4_fewestDays 49 = .ok (.iastore, 1) := by decide +kernel
theorem dX4_fewestDays_50 : decode cX4_fewestDays 50 = .ok (.iinc 4 1, 3) := by decide +kernel
theorem dX4_fewestDays_53 : decode cX4_fewestDays 53 = .ok (.goto (-19), 3) := by decide +kernel
theorem dX4_fewestDays_56 : decode cX4_fewestDays 56 = .ok (.aload_n 0, 1) := by decide +kernel
theorem dX4_fewestDays_57 : decode cX4_fewestDays 57 = .ok (.getfield 46, 3) := by decide +kernel
theorem dX4_fewestDays_60 : decode cX4_fewestDays 60 = .ok (.iconst 0, 1) := by decide +kernel
theorem dX4_fewestDays_61 : decode cX4_fewestDays 61 = .ok (.iconst 0, 1) := by decide +kernel
theorem dX4_fewestDays_62 : decode cX4_fewestDays 62 = .ok (.iastore, 1) := by decide +kernel
theorem dX4_fewestDays_63 : decode cX4_fewestDays 63 = .ok (.aload_n 0, 1) := by decide +kernel
theorem dX4_fewestDays_64 : decode cX4_fewestDays 64 = .ok (.iload_n 2, 1) := by decide +kernel
theorem dX4_fewestDays_65 : decode cX4_fewestDays 65 = .ok (.iload_n 3, 1) := by decide +kernel
theorem dX4_fewestDays_66 : decode cX4_fewestDays 66 = .ok (.invokevirtual 85, 3) := by decide +kernel
theorem dX4_fewestDays_69 : decode cX4_fewestDays 69 = .ok (.aload_n 1, 1) := by decide +kernel
theorem dX4_fewestDays_70 : decode cX4_fewestDays 70 = .ok (.getfield 172, 3) := by decide +kernel
theorem dX4_fewestDays_73 : decode cX4_fewestDays 73 = .ok (.istore 4, 2) := by decide +kernel
theorem dX4_fewestDays_75 : decode cX4_fewestDays 75 = .ok (.iload 4, 2) := by decide +kernel
theorem dX4_fewestDays_77 : decode cX4_fewestDays 77 = .ok (.aload_n 1, 1) := by decide +kernel
theorem dX4_fewestDays_78 : decode cX4_fewestDays 78 = .ok (.getfield 172, 3) := by decide +kernel
theorem dX4_fewestDays_81 : decode cX4_fewestDays 81 = .ok (.bipush 7, 2) := by decide +kernel
theorem dX4_fewestDays_83 : decode cX4_fewestDays 83 = .ok (.iadd, 1) := by decide +kernel
theorem dX4_fewestDays_84 : decode cX4_fewestDays 84 = .ok (.if_icmp .ge 28, 3) := by decide +kernel
theorem dX4_fewestDays_87 : decode cX4_fewestDays 87 = .ok (.aload_n 0, 1) := by decide +kernel
theorem dX4_fewestDays_88 : decode cX4_fewestDays 88 = .ok (.iload_n 3, 1) := by decide +kernel
theorem dX4_fewestDays_89 : decode cX4_fewestDays 89 = .ok (.aload_n 0, 1) := by decide +kernel
theorem dX4_fewestDays_90 : decode cX4_fewestDays 90 = .ok (.aload_n 1, 1) := by decide +kernel
theorem dX4_fewestDays_91 : decode cX4_fewestDays 91 = .ok (.iload 4, 2) := by decide +kernel
theorem dX4_fewestDays_93 : decode cX4_fewestDays 93 = .ok (.invokevirtual 81, 3) := by decide +kernel
theorem dX4_fewestDays_96 : decode cX4_fewestDays 96 = .ok (.aload_n 0, 1) := by decide +kernel
theorem dX4_fewestDays_97 : decode cX4_fewestDays 97 = .ok (.iload 4, 2) := by decide +kernel
theorem dX4_fewestDays_99 : decode cX4_fewestDays 99 = .ok (.invokevirtual 175, 3) := by decide +kernel
theorem dX4_fewestDays_102 : decode cX4_fewestDays 102 = .ok (.iand, 1) := by decide +kernel
theorem dX4_fewestDays_103 : decode cX4_fewestDays 103 = .ok (.invokevirtual 178, 3) := by decide +kernel
theorem dX4_fewestDays_106 : decode cX4_fewestDays 106 = .ok (.iinc 4 1, 3) := by decide +kernel
theorem dX4_fewestDays_109 : decode cX4_fewestDays 109 = .ok (.goto (-34), 3) := by decide +kernel
theorem dX4_fewestDays_112 : decode cX4_fewestDays 112 = .ok (.aload_n 0, 1) := by decide +kernel
theorem dX4_fewestDays_113 : decode cX4_fewestDays 113 = .ok (.getfield 46, 3) := by decide +kernel
theorem dX4_fewestDays_116 : decode cX4_fewestDays 116 = .ok (.iload_n 3, 1) := by decide +kernel
theorem dX4_fewestDays_117 : decode cX4_fewestDays 117 = .ok (.iaload, 1) := by decide +kernel
theorem dX4_fewestDays_118 : decode cX4_fewestDays 118 = .ok (.sipush 1000, 3) := by decide +kernel
theorem dX4_fewestDays_121 : decode cX4_fewestDays 121 = .ok (.if_icmp .lt 7, 3) := by decide +kernel
theorem dX4_fewestDays_124 : decode cX4_fewestDays 124 = .ok (.iconst (-1), 1) := by decide +kernel
theorem dX4_fewestDays_125 : decode cX4_fewestDays 125 = .ok (.goto 9, 3) := by decide +kernel
theorem dX4_fewestDays_128 : decode cX4_fewestDays 128 = .ok (.aload_n 0, 1) := by decide +kernel
theorem dX4_fewestDays_129 : decode cX4_fewestDays 129 = .ok (.getfield 46, 3) := by decide +kernel
theorem dX4_fewestDays_132 : decode cX4_fewestDays 132 = .ok (.iload_n 3, 1) := by decide +kernel
theorem dX4_fewestDays_133 : decode cX4_fewestDays 133 = .ok (.iaload, 1) := by decide +kernel
theorem dX4_fewestDays_134 : decode cX4_fewestDays 134 = .ok (.ireturn, 1) := by decide +kernel
theorem dX4_gatherDeadlines_0 : decode cX4_gatherDeadlines 0 = .ok (.aload_n 0, 1) := by decide +kernel
theorem dX4_gatherDeadlines_1 : decode cX4_gatherDeadlines 1 = .ok (.iconst 0, 1) := by decide +kernel
theorem dX4_gatherDeadlines_2 : decode cX4_gatherDeadlines 2 = .ok (.putfield 53, 3) := by decide +kernel
theorem dX4_gatherDeadlines_5 : decode cX4_gatherDeadlines 5 = .ok (.iconst 0, 1) := by decide +kernel
theorem dX4_gatherDeadlines_6 : decode cX4_gatherDeadlines 6 = .ok (.istore_n 3, 1) := by decide +kernel
theorem dX4_gatherDeadlines_7 : decode cX4_gatherDeadlines 7 = .ok (.iload_n 3, 1) := by decide +kernel
theorem dX4_gatherDeadlines_8 : decode cX4_gatherDeadlines 8 = .ok (.bipush 10, 2) := by decide +kernel
theorem dX4_gatherDeadlines_10 : decode cX4_gatherDeadlines 10 = .ok (.if_icmp .ge 147, 3) := by decide +kernel
theorem dX4_gatherDeadlines_13 : decode cX4_gatherDeadlines 13 = .ok (.aload_n 1, 1) := by decide +kernel
theorem dX4_gatherDeadlines_14 : decode cX4_gatherDeadlines 14 = .ok (.getfield 67, 3) := by decide +kernel
theorem dX4_gatherDeadlines_17 : decode cX4_gatherDeadlines 17 = .ok (.iload_n 2, 1) := by decide +kernel
theorem dX4_gatherDeadlines_18 : decode cX4_gatherDeadlines 18 = .ok (.iload_n 3, 1) := by decide +kernel
theorem dX4_gatherDeadlines_19 : decode cX4_gatherDeadlines 19 = .ok (.invokevirtual 181, 3) := by decide +kernel
theorem dX4_gatherDeadlines_22 : decode cX4_gatherDeadlines 22 = .ok (.istore 4, 2) := by decide +kernel
theorem dX4_gatherDeadlines_24 : decode cX4_gatherDeadlines 24 = .ok (.iload 4, 2) := by decide +kernel
theorem dX4_gatherDeadlines_26 : decode cX4_gatherDeadlines 26 = .ok (.ifCond .ge 4, 3) := by decide +kernel
theorem dX4_gatherDeadlines_29 : decode cX4_gatherDeadlines 29 = .ok (.return_, 1) := by decide +kernel
theorem dX4_gatherDeadlines_30 : decode cX4_gatherDeadlines 30 = .ok (.aload_n 0, 1) := by decide +kernel
theorem dX4_gatherDeadlines_31 : decode cX4_gatherDeadlines 31 = .ok (.getfield 53, 3) := by decide +kernel
theorem dX4_gatherDeadlines_34 : decode cX4_gatherDeadlines 34 = .ok (.istore 5, 2) := by decide +kernel
theorem dX4_gatherDeadlines_36 : decode cX4_gatherDeadlines 36 = .ok (.iconst 0, 1) := by decide +kernel
theorem dX4_gatherDeadlines_37 : decode cX4_gatherDeadlines 37 = .ok (.istore 6, 2) := by decide +kernel
theorem dX4_gatherDeadlines_39 : decode cX4_gatherDeadlines 39 = .ok (.iload 6, 2) := by decide +kernel
theorem dX4_gatherDeadlines_41 : decode cX4_gatherDeadlines 41 = .ok (.aload_n 0, 1) := by decide +kernel
theorem dX4_gatherDeadlines_42 : decode cX4_gatherDeadlines 42 = .ok (.getfield 53, 3) := by decide +kernel
theorem dX4_gatherDeadlines_45 : decode cX4_gatherDeadlines 45 = .ok (.if_icmp .ge 33, 3) := by decide +kernel
theorem dX4_gatherDeadlines_48 : decode cX4_gatherDeadlines 48 = .ok (.aload_n 0, 1) := by decide +kernel
theorem dX4_gatherDeadlines_49 : decode cX4_gatherDeadlines 49 = .ok (.getfield 22, 3) := by decide +kernel
theorem dX4_gatherDeadlines_52 : decode cX4_gatherDeadlines 52 = .ok (.iload 6, 2) := by decide +kernel
theorem dX4_gatherDeadlines_54 : decode cX4_gatherDeadlines 54 = .ok (.iaload, 1) := by decide +kernel
theorem dX4_gatherDeadlines_55 : decode cX4_gatherDeadlines 55 = .ok (.aload_n 1, 1) := by decide +kernel
theorem dX4_gatherDeadlines_56 : decode cX4_gatherDeadlines 56 = .ok (.getfield 67, 3) := by decide +kernel
theorem dX4_gatherDeadlines_59 : decode cX4_gatherDeadlines 59 = .ok (.getfield 184, 3) := by decide +kernel
theorem dX4_gatherDeadlines_62 : decode cX4_gatherDeadlines 62 = .ok (.iload 4, 2) := by decide +kernel
theorem dX4_gatherDeadlines_64 : decode cX4_gatherDeadlines 64 = .ok (.iaload, 1) := by decide +kernel
theorem dX4_gatherDeadlines_65 : decode cX4_gatherDeadlines 65 = .ok (.if_icmp .ne 7, 3) := by decide +kernel
theorem dX4_gatherDeadlines_68 : decode cX4_gatherDeadlines 68 = .ok (.iload 6, 2) := by decide +kernel
theorem dX4_gatherDeadlines_70 : decode cX4_gatherDeadlines 70 = .ok (.istore 5, 2) := by decide +kernel
theorem dX4_gatherDeadlines_72 : decode cX4_gatherDeadlines 72 = .ok (.iinc 6 1, 3) := by decide +kernel
theorem dX4_gatherDeadlines_75 : decode cX4_gatherDeadlines 75 = .ok (.goto (-36), 3) := by decide +kernel
theorem dX4_gatherDeadlines_78 : decode cX4_gatherDeadlines 78 = .ok (.iload 5, 2) := by decide +kernel
theorem dX4_gatherDeadlines_80 : decode cX4_gatherDeadlines 80 = .ok (.aload_n 0, 1) := by decide +kernel
theorem dX4_gatherDeadlines_81 : decode cX4_gatherDeadlines 81 = .ok (.getfield 53, 3) := by decide +kernel
theorem dX4_gatherDeadlines_84 : decode cX4_gatherDeadlines 84 = .ok (.if_icmp .ne 40, 3) := by decide +kernel
theorem dX4_gatherDeadlines_87 : decode cX4_gatherDeadlines 87 = .ok (.aload_n 0, 1) := by decide +kernel
theorem dX4_gatherDeadlines_88 : decode cX4_gatherDeadlines 88 = .ok (.getfield 22, 3) := by decide +kernel
theorem dX4_gatherDeadlines_91 : decode cX4_gatherDeadlines 91 = .ok (.iload 5, 2) := by decide +kernel
theorem dX4_gatherDeadlines_93 : decode cX4_gatherDeadlines 93 = .ok (.aload_n 1, 1) := by decide +kernel
theorem dX4_gatherDeadlines_94 : decode cX4_gatherDeadlines 94 = .ok (.getfield 67, 3) := by decide +kernel
theorem dX4_gatherDeadlines_97 : decode cX4_gatherDeadlines 97 = .ok (.getfield 184, 3) := by decide +kernel
theorem dX4_gatherDeadlines_100 : decode cX4_gatherDeadlines 100 = .ok (.iload 4, 2) := by decide +kernel
theorem dX4_gatherDeadlines_102 : decode cX4_gatherDeadlines 102 = .ok (.iaload, 1) := by decide +kernel
theorem dX4_gatherDeadlines_103 : decode cX4_gatherDeadlines 103 = .ok (.iastore, 1) := by decide +kernel
theorem dX4_gatherDeadlines_104 : decode cX4_gatherDeadlines 104 = .ok (.aload_n 0, 1) := by decide +kernel
theorem dX4_gatherDeadlines_105 : decode cX4_gatherDeadlines 105 = .ok (.getfield 25, 3) := by decide +kernel
theorem dX4_gatherDeadlines_108 : decode cX4_gatherDeadlines 108 = .ok (.iload 5, 2) := by decide +kernel
theorem dX4_gatherDeadlines_110 : decode cX4_gatherDeadlines 110 = .ok (.sipush 399, 3) := by decide +kernel
theorem dX4_gatherDeadlines_113 : decode cX4_gatherDeadlines 113 = .ok (.iastore, 1) := by decide +kernel
theorem dX4_gatherDeadlines_114 : decode cX4_gatherDeadlines 114 = .ok (.aload_n 0, 1) := by decide +kernel
theorem dX4_gatherDeadlines_115 : decode cX4_gatherDeadlines 115 = .ok (.dup, 1) := by decide +kernel
theorem dX4_gatherDeadlines_116 : decode cX4_gatherDeadlines 116 = .ok (.getfield 53, 3) := by decide +kernel
theorem dX4_gatherDeadlines_119 : decode cX4_gatherDeadlines 119 = .ok (.iconst 1, 1) := by decide +kernel
theorem dX4_gatherDeadlines_120 : decode cX4_gatherDeadlines 120 = .ok (.iadd, 1) := by decide +kernel
theorem dX4_gatherDeadlines_121 : decode cX4_gatherDeadlines 121 = .ok (.putfield 53, 3) := by decide +kernel
theorem dX4_gatherDeadlines_124 : decode cX4_gatherDeadlines 124 = .ok (.aload_n 0, 1) := by decide +kernel
theorem dX4_gatherDeadlines_125 : decode cX4_gatherDeadlines 125 = .ok (.getfield 25, 3) := by decide +kernel
theorem dX4_gatherDeadlines_128 : decode cX4_gatherDeadlines 128 = .ok (.iload 5, 2) := by decide +kernel
theorem dX4_gatherDeadlines_130 : decode cX4_gatherDeadlines 130 = .ok (.aload_n 0, 1) := by decide +kernel
theorem dX4_gatherDeadlines_131 : decode cX4_gatherDeadlines 131 = .ok (.getfield 25, 3) := by decide +kernel
theorem dX4_gatherDeadlines_134 : decode cX4_gatherDeadlines 134 = .ok (.iload 5, 2) := by decide +kernel
theorem dX4_gatherDeadlines_136 : decode cX4_gatherDeadlines 136 = .ok (.iaload, 1) := by decide +kernel
theorem dX4_gatherDeadlines_137 : decode cX4_gatherDeadlines 137 = .ok (.aload_n 1, 1) := by decide +kernel
theorem dX4_gatherDeadlines_138 : decode cX4_gatherDeadlines 138 = .ok (.getfield 67, 3) := by decide +kernel
theorem dX4_gatherDeadlines_141 : decode cX4_gatherDeadlines 141 = .ok (.getfield 187, 3) := by decide +kernel
theorem dX4_gatherDeadlines_144 : decode cX4_gatherDeadlines 144 = .ok (.iload 4, 2) := by decide +kernel
theorem dX4_gatherDeadlines_146 : decode cX4_gatherDeadlines 146 = .ok (.iaload, 1) := by decide +kernel
theorem dX4_gatherDeadlines_147 : decode cX4_gatherDeadlines 147 = .ok (.invokestatic 136, 3) := by decide +kernel
theorem dX4_gatherDeadlines_150 : decode cX4_gatherDeadlines 150 = .ok (.iastore, 1) := by decide +kernel
theorem dX4_gatherDeadlines_151 : decode cX4_gatherDeadlines 151 = .ok (.iinc 3 1, 3) := by decide +kernel
theorem dX4_gatherDeadlines_154 : decode cX4_gatherDeadlines 154 = .ok (.goto (-147), 3) := by decide +kernel
theorem dX4_gatherDeadlines_157 : decode cX4_gatherDeadlines 157 = .ok (.return_, 1) := by decide +kernel
theorem dX4_inTime_0 : decode cX4_inTime 0 = .ok (.iconst 0, 1) := by decide +kernel
theorem dX4_inTime_1 : decode cX4_inTime 1 = .ok (.istore_n 2, 1) := by decide +kernel
theorem dX4_inTime_2 : decode cX4_inTime 2 = .ok (.iconst 0, 1) := by decide +kernel
theorem dX4_inTime_3 : decode cX4_inTime 3 = .ok (.istore_n 3, 1) := by decide +kernel
theorem dX4_inTime_4 : decode cX4_inTime 4 = .ok (.iload_n 3, 1) := by decide +kernel
theorem dX4_inTime_5 : decode cX4_inTime 5 = .ok (.aload_n 0, 1) := by decide +kernel
theorem dX4_inTime_6 : decode cX4_inTime 6 = .ok (.getfield 53, 3) := by decide +kernel
theorem dX4_inTime_9 : decode cX4_inTime 9 = .ok (.if_icmp .ge 25, 3) := by decide +kernel
theorem dX4_inTime_12 : decode cX4_inTime 12 = .ok (.iload_n 1, 1) := by decide +kernel
theorem dX4_inTime_13 : decode cX4_inTime 13 = .ok (.aload_n 0, 1) := by decide +kernel
theorem dX4_inTime_14 : decode cX4_inTime 14 = .ok (.getfield 25, 3) := by decide +kernel
theorem dX4_inTime_17 : decode cX4_inTime 17 = .ok (.iload_n 3, 1) := by decide +kernel
theorem dX4_inTime_18 : decode cX4_inTime 18 = .ok (.iaload, 1) := by decide +kernel
theorem dX4_inTime_19 : decode cX4_inTime 19 = .ok (.if_icmp .gt 9, 3) := by decide +kernel
theorem dX4_inTime_22 : decode cX4_inTime 22 = .ok (.iload_n 2, 1) := by decide +kernel
theorem dX4_inTime_23 : decode cX4_inTime 23 = .ok (.iconst 1, 1) := by decide +kernel
theorem dX4_inTime_24 : decode cX4_inTime 24 = .ok (.iload_n 3, 1) := by decide +kernel
theorem dX4_inTime_25 : decode cX4_inTime 25 = .ok (.ishl, 1) := by decide +kernel
theorem dX4_inTime_26 : decode cX4_inTime 26 = .ok (.ior, 1) := by decide +kernel
theorem dX4_inTime_27 : decode cX4_inTime 27 = .ok (.istore_n 2, 1) := by decide +kernel
theorem dX4_inTime_28 : decode cX4_inTime 28 = .ok (.iinc 3 1, 3) := by decide +kernel
theorem dX4_inTime_31 : decode cX4_inTime 31 = .ok (.goto (-27), 3) := by decide +kernel
theorem dX4_inTime_34 : decode cX4_inTime 34 = .ok (.iload_n 2, 1) := by decide +kernel
theorem dX4_inTime_35 : decode cX4_inTime 35 = .ok (.ireturn, 1) := by decide +kernel
theorem dX4_addDay_0 : decode cX4_addDay 0 = .ok (.iload_n 1, 1) := by decide +kernel
theorem dX4_addDay_1 : decode cX4_addDay 1 = .ok (.istore_n 3, 1) := by decide +kernel
theorem dX4_addDay_2 : decode cX4_addDay 2 = .ok (.iload_n 3, 1) := by decide +kernel
theorem dX4_addDay_3 : decode cX4_addDay 3 = .ok (.ifCond .le 121, 3) := by decide +kernel
theorem dX4_addDay_6 : decode cX4_addDay 6 = .ok (.iload_n 3, 1) := by decide +kernel
theorem dX4_addDay_7 : decode cX4_addDay 7 = .ok (.iload_n 2, 1) := by decide +kernel
theorem dX4_addDay_8 : decode cX4_addDay 8 = .ok (.iand, 1) := by decide +kernel
theorem dX4_addDay_9 : decode cX4_addDay 9 = .ok (.istore 4, 2) := by decide +kernel
theorem dX4_addDay_11 : decode cX4_addDay 11 = .ok (.iload 4, 2) := by decide +kernel
theorem dX4_addDay_13 : decode cX4_addDay 13 = .ok (.ifCond .eq 45, 3) := by decide +kernel
theorem dX4_addDay_16 : decode cX4_addDay 16 = .ok (.aload_n 0, 1) := by decide +kernel
theorem dX4_addDay_17 : decode cX4_addDay 17 = .ok (.getfield 43, 3) := by decide +kernel
theorem dX4_addDay_20 : decode cX4_addDay 20 = .ok (.iload 4, 2) := by decide +kernel
theorem dX4_addDay_22 : decode cX4_addDay 22 = .ok (.iaload, 1) := by decide +kernel
theorem dX4_addDay_23 : decode cX4_addDay 23 = .ok (.sipush 1000, 3) := by decide +kernel
theorem dX4_addDay_26 : decode cX4_addDay 26 = .ok (.if_icmp .ge 32, 3) := by decide +kernel
theorem dX4_addDay_29 : decode cX4_addDay 29 = .ok (.aload_n 0, 1) := by decide +kernel
theorem dX4_addDay_30 : decode cX4_addDay 30 = .ok (.getfield 46, 3) := by decide +kernel
theorem dX4_addDay_33 : decode cX4_addDay 33 = .ok (.iload_n 3, 1) := by decide +kernel
theorem dX4_addDay_34 : decode cX4_addDay 34 = .ok (.aload_n 0, 1) := by decide +kernel
theorem dX4_addDay_35 : decode cX4_addDay 35 = .ok (.getfield 46, 3) := by decide +kernel
theorem dX4_addDay_38 : decode cX4_addDay 38 = .ok (.iload_n 3, 1) := by decide +kernel
theorem dX4_addDay_39 : decode cX4_addDay 39 = .ok (.iaload, 1) := by decide +kernel
theorem dX4_addDay_40 : decode cX4_addDay 40 = .ok (.aload_n 0, 1) := by decide +kernel
theorem dX4_addDay_41 : decode cX4_addDay 41 = .ok (.getfield 46, 3) := by decide +kernel
theorem dX4_addDay_44 : decode cX4_addDay 44 = .ok (.iload_n 3, 1) := by decide +kernel
theorem dX4_addDay_45 : decode cX4_addDay 45 = .ok (.iload 4, 2) := by decide +kernel
theorem dX4_addDay_47 : decode cX4_addDay 47 = .ok (.ixor, 1) := by decide +kernel
theorem dX4_addDay_48 : decode cX4_addDay 48 = .ok (.iaload, 1) := by decide +kernel
theorem dX4_addDay_49 : decode cX4_addDay 49 = .ok (.iconst 1, 1) := by decide +kernel
theorem dX4_addDay_50 : decode cX4_addDay 50 = .ok (.iadd, 1) := by decide +kernel
theorem dX4_addDay_51 : decode cX4_addDay 51 = .ok (.invokestatic 136, 3) := by decide +kernel
theorem dX4_addDay_54 : decode cX4_addDay 54 = .ok (.iastore, 1) := by decide +kernel
theorem dX4_addDay_55 : decode cX4_addDay 55 = .ok (.goto 63, 3) := by decide +kernel
theorem dX4_addDay_58 : decode cX4_addDay 58 = .ok (.iload 4, 2) := by decide +kernel
theorem dX4_addDay_60 : decode cX4_addDay 60 = .ok (.istore 5, 2) := by decide +kernel
theorem dX4_addDay_62 : decode cX4_addDay 62 = .ok (.iload 5, 2) := by decide +kernel
theorem dX4_addDay_64 : decode cX4_addDay 64 = .ok (.ifCond .le 54, 3) := by decide +kernel
theorem dX4_addDay_67 : decode cX4_addDay 67 = .ok (.aload_n 0, 1) := by decide +kernel
theorem dX4_addDay_68 : decode cX4_addDay 68 = .ok (.getfield 43, 3) := by decide +kernel
theorem dX4_addDay_71 : decode cX4_addDay 71 = .ok (.iload 5, 2) := by decide +kernel
theorem dX4_addDay_73 : decode cX4_addDay 73 = .ok (.iaload, 1) := by decide +kernel
theorem dX4_addDay_74 : decode cX4_addDay 74 = .ok (.sipush 1000, 3) := by decide +kernel
theorem dX4_addDay_77 : decode cX4_addDay 77 = .ok (.if_icmp .ge 29, 3) := by decide +kernel
theorem dX4_addDay_80 : decode cX4_addDay 80 = .ok (.aload_n 0, 1) := by decide +kernel
theorem dX4_addDay_81 : decode cX4_addDay 81 = .ok (.getfield 46, 3) := by decide +kernel
theorem dX4_addDay_84 : decode cX4_addDay 84 = .ok (.iload_n 3, 1) := by decide +kernel
theorem dX4_addDay_85 : decode cX4_addDay 85 = .ok (.aload_n 0, 1) := by decide +kernel
theorem dX4_addDay_86 : decode cX4_addDay 86 = .ok (.getfield 46, 3) := by decide +kernel
theorem dX4_addDay_89 : decode cX4_addDay 89 = .ok (.iload_n 3, 1) := by decide +kernel
theorem dX4_addDay_90 : decode cX4_addDay 90 = .ok (.iaload, 1) := by decide +kernel
theorem dX4_addDay_91 : decode cX4_addDay 91 = .ok (.aload_n 0, 1) := by decide +kernel
theorem dX4_addDay_92 : decode cX4_addDay 92 = .ok (.getfield 46, 3) := by decide +kernel
theorem dX4_addDay_95 : decode cX4_addDay 95 = .ok (.iload_n 3, 1) := by decide +kernel
theorem dX4_addDay_96 : decode cX4_addDay 96 = .ok (.iload 5, 2) := by decide +kernel
theorem dX4_addDay_98 : decode cX4_addDay 98 = .ok (.ixor, 1) := by decide +kernel
theorem dX4_addDay_99 : decode cX4_addDay 99 = .ok (.iaload, 1) := by decide +kernel
theorem dX4_addDay_100 : decode cX4_addDay 100 = .ok (.iconst 1, 1) := by decide +kernel
theorem dX4_addDay_101 : decode cX4_addDay 101 = .ok (.iadd, 1) := by decide +kernel
theorem dX4_addDay_102 : decode cX4_addDay 102 = .ok (.invokestatic 136, 3) := by decide +kernel
theorem dX4_addDay_105 : decode cX4_addDay 105 = .ok (.iastore, 1) := by decide +kernel
theorem dX4_addDay_106 : decode cX4_addDay 106 = .ok (.iload 5, 2) := by decide +kernel
theorem dX4_addDay_108 : decode cX4_addDay 108 = .ok (.iconst 1, 1) := by decide +kernel
theorem dX4_addDay_109 : decode cX4_addDay 109 = .ok (.isub, 1) := by decide +kernel
theorem dX4_addDay_110 : decode cX4_addDay 110 = .ok (.iload 4, 2) := by decide +kernel
theorem dX4_addDay_112 : decode cX4_addDay 112 = .ok (.iand, 1) := by decide +kernel
theorem dX4_addDay_113 : decode cX4_addDay 113 = .ok (.istore 5, 2) := by decide +kernel
theorem dX4_addDay_115 : decode cX4_addDay 115 = .ok (.goto (-53), 3) := by decide +kernel
theorem dX4_addDay_118 : decode cX4_addDay 118 = .ok (.iinc 3 (-1), 3) := by decide +kernel
theorem dX4_addDay_121 : decode cX4_addDay 121 = .ok (.goto (-119), 3) := by decide +kernel
theorem dX4_addDay_124 : decode cX4_addDay 124 = .ok (.return_, 1) := by decide +kernel
theorem dX4_lostBits_0 : decode cX4_lostBits 0 = .ok (.iconst 0, 1) := by decide +kernel
theorem dX4_lostBits_1 : decode cX4_lostBits 1 = .ok (.istore_n 3, 1) := by decide +kernel
theorem dX4_lostBits_2 : decode cX4_lostBits 2 = .ok (.iconst 0, 1) := by decide +kernel
theorem dX4_lostBits_3 : decode cX4_lostBits 3 = .ok (.istore 4, 2) := by decide +kernel
theorem dX4_lostBits_5 : decode cX4_lostBits 5 = .ok (.iload 4, 2) := by decide +kernel
theorem dX4_lostBits_7 : decode cX4_lostBits 7 = .ok (.bipush 10, 2) := by decide +kernel
theorem dX4_lostBits_9 : decode cX4_lostBits 9 = .ok (.if_icmp .ge 62, 3) := by decide +kernel
theorem dX4_lostBits_12 : decode cX4_lostBits 12 = .ok (.aload_n 1, 1) := by decide +kernel
theorem dX4_lostBits_13 : decode cX4_lostBits 13 = .ok (.getfield 67, 3) := by decide +kernel
theorem dX4_lostBits_16 : decode cX4_lostBits 16 = .ok (.iload_n 2, 1) := by decide +kernel
theorem dX4_lostBits_17 : decode cX4_lostBits 17 = .ok (.iload 4, 2) := by decide +kernel
theorem dX4_lostBits_19 : decode cX4_lostBits 19 = .ok (.invokevirtual 181, 3) := by decide +kernel
theorem dX4_lostBits_22 : decode cX4_lostBits 22 = .ok (.istore 5, 2) := by decide +kernel
theorem dX4_lostBits_24 : decode cX4_lostBits 24 = .ok (.iload 5, 2) := by decide +kernel
theorem dX4_lostBits_26 : decode cX4_lostBits 26 = .ok (.ifCond .lt 39, 3) := by decide +kernel
theorem dX4_lostBits_29 : decode cX4_lostBits 29 = .ok (.aload_n 0, 1) := by decide +kernel
theorem dX4_lostBits_30 : decode cX4_lostBits 30 = .ok (.aload_n 1, 1) := by decide +kernel
theorem dX4_lostBits_31 : decode cX4_lostBits 31 = .ok (.iload_n 2, 1) := by decide +kernel
theorem dX4_lostBits_32 : decode cX4_lostBits 32 = .ok (.aload_n 1, 1) := by decide +kernel
theorem dX4_lostBits_33 : decode cX4_lostBits 33 = .ok (.getfield 67, 3) := by decide +kernel
theorem dX4_lostBits_36 : decode cX4_lostBits 36 = .ok (.getfield 184, 3) := by decide +kernel
theorem dX4_lostBits_39 : decode cX4_lostBits 39 = .ok (.iload 5, 2) := by decide +kernel
theorem dX4_lostBits_41 : decode cX4_lostBits 41 = .ok (.iaload, 1) := by decide +kernel
theorem dX4_lostBits_42 : decode cX4_lostBits 42 = .ok (.aload_n 1, 1) := by decide +kernel
theorem dX4_lostBits_43 : decode cX4_lostBits 43 = .ok (.getfield 67, 3) := by decide +kernel
theorem dX4_lostBits_46 : decode cX4_lostBits 46 = .ok (.getfield 187, 3) := by decide +kernel
theorem dX4_lostBits_49 : decode cX4_lostBits 49 = .ok (.iload 5, 2) := by decide +kernel
theorem dX4_lostBits_51 : decode cX4_lostBits 51 = .ok (.iaload, 1) := by decide +kernel
theorem dX4_lostBits_52 : decode cX4_lostBits 52 = .ok (.invokevirtual 190, 3) := by decide +kernel
theorem dX4_lostBits_55 : decode cX4_lostBits 55 = .ok (.ifCond .ne 10, 3) := by decide +kernel
theorem dX4_lostBits_58 : decode cX4_lostBits 58 = .ok (.iload_n 3, 1) := by decide +kernel
theorem dX4_lostBits_59 : decode cX4_lostBits 59 = .ok (.iconst 1, 1) := by decide +kernel
theorem dX4_lostBits_60 : decode cX4_lostBits 60 = .ok (.iload 4, 2) := by decide +kernel
theorem dX4_lostBits_62 : decode cX4_lostBits 62 = .ok (.ishl, 1) := by decide +kernel
theorem dX4_lostBits_63 : decode cX4_lostBits 63 = .ok (.ior, 1) := by decide +kernel
theorem dX4_lostBits_64 : decode cX4_lostBits 64 = .ok (.istore_n 3, 1) := by decide +kernel
theorem dX4_lostBits_65 : decode cX4_lostBits 65 = .ok (.iinc 4 1, 3) := by decide +kernel
theorem dX4_lostBits_68 : decode cX4_lostBits 68 = .ok (.goto (-63), 3) := by decide +kernel
theorem dX4_lostBits_71 : decode cX4_lostBits 71 = .ok (.iload_n 3, 1) := by decide +kernel
theorem dX4_lostBits_72 : decode cX4_lostBits 72 = .ok (.ireturn, 1) := by decide +kernel
theorem dX4_canBeSeen_0 : decode cX4_canBeSeen 0 = .ok (.aload_n 0, 1) := by decide +kernel
theorem dX4_canBeSeen_1 : decode cX4_canBeSeen 1 = .ok (.aload_n 1, 1) := by decide +kernel
theorem dX4_canBeSeen_2 : decode cX4_canBeSeen 2 = .ok (.iload_n 2, 1) := by decide +kernel
theorem dX4_canBeSeen_3 : decode cX4_canBeSeen 3 = .ok (.iload_n 3, 1) := by decide +kernel
theorem dX4_canBeSeen_4 : decode cX4_canBeSeen 4 = .ok (.invokevirtual 101, 3) := by decide +kernel
theorem dX4_canBeSeen_7 : decode cX4_canBeSeen 7 = .ok (.aload_n 0, 1) := by decide +kernel
theorem dX4_canBeSeen_8 : decode cX4_canBeSeen 8 = .ok (.iload_n 3, 1) := by decide +kernel
theorem dX4_canBeSeen_9 : decode cX4_canBeSeen 9 = .ok (.aload_n 1, 1) := by decide +kernel
theorem dX4_canBeSeen_10 : decode cX4_canBeSeen 10 = .ok (.getfield 56, 3) := by decide +kernel
theorem dX4_canBeSeen_13 : decode cX4_canBeSeen 13 = .ok (.iload_n 2, 1) := by decide +kernel
theorem dX4_canBeSeen_14 : decode cX4_canBeSeen 14 = .ok (.iload_n 3, 1) := by decide +kernel
theorem dX4_canBeSeen_15 : decode cX4_canBeSeen 15 = .ok (.invokevirtual 105, 3) := by decide +kernel
theorem dX4_canBeSeen_18 : decode cX4_canBeSeen 18 = .ok (.invokevirtual 133, 3) := by decide +kernel
theorem dX4_canBeSeen_21 : decode cX4_canBeSeen 21 = .ok (.sipush 1000, 3) := by decide +kernel
theorem dX4_canBeSeen_24 : decode cX4_canBeSeen 24 = .ok (.if_icmp .lt 5, 3) := by decide +kernel
theorem dX4_canBeSeen_27 : decode cX4_canBeSeen 27 = .ok (.iconst 0, 1) := by decide +kernel
theorem dX4_canBeSeen_28 : decode cX4_canBeSeen 28 = .ok (.ireturn, 1) := by decide +kernel
theorem dX4_canBeSeen_29 : decode cX4_canBeSeen 29 = .ok (.aload_n 1, 1) := by decide +kernel
theorem dX4_canBeSeen_30 : decode cX4_canBeSeen 30 = .ok (.getfield 172, 3) := by decide +kernel
theorem dX4_canBeSeen_33 : decode cX4_canBeSeen 33 = .ok (.istore 5, 2) := by decide +kernel
theorem dX4_canBeSeen_35 : decode cX4_canBeSeen 35 = .ok (.iload 5, 2) := by decide +kernel
theorem dX4_canBeSeen_37 : decode cX4_canBeSeen 37 = .ok (.aload_n 1, 1) := by decide +kernel
theorem dX4_canBeSeen_38 : decode cX4_canBeSeen 38 = .ok (.getfield 172, 3) := by decide +kernel
theorem dX4_canBeSeen_41 : decode cX4_canBeSeen 41 = .ok (.bipush 7, 2) := by decide +kernel
theorem dX4_canBeSeen_43 : decode cX4_canBeSeen 43 = .ok (.iadd, 1) := by decide +kernel
theorem dX4_canBeSeen_44 : decode cX4_canBeSeen 44 = .ok (.if_icmp .ge 29, 3) := by decide +kernel
theorem dX4_canBeSeen_47 : decode cX4_canBeSeen 47 = .ok (.iload 5, 2) := by decide +kernel
theorem dX4_canBeSeen_49 : decode cX4_canBeSeen 49 = .ok (.iload 4, 2) := by decide +kernel
theorem dX4_canBeSeen_51 : decode cX4_canBeSeen 51 = .ok (.if_icmp .gt 22, 3) := by decide +kernel
theorem dX4_canBeSeen_54 : decode cX4_canBeSeen 54 = .ok (.aload_n 1, 1) := by decide +kernel
theorem dX4_canBeSeen_55 : decode cX4_canBeSeen 55 = .ok (.iload_n 2, 1) := by decide +kernel
theorem dX4_canBeSeen_56 : decode cX4_canBeSeen 56 = .ok (.iload_n 3, 1) := by decide +kernel
theorem dX4_canBeSeen_57 : decode cX4_canBeSeen 57 = .ok (.iload 5, 2) := by decide +kernel
theorem dX4_canBeSeen_59 : decode cX4_canBeSeen 59 = .ok (.invokestatic 120, 3) := by decide +kernel
theorem dX4_canBeSeen_62 : decode cX4_canBeSeen 62 = .ok (.ifCond .eq 5, 3) := by decide +kernel
theorem dX4_canBeSeen_65 : decode cX4_canBeSeen 65 = .ok (.iconst 1, 1) := by decide +kernel
theorem dX4_canBeSeen_66 : decode cX4_canBeSeen 66 = .ok (.ireturn, 1) := by decide +kernel
theorem dX4_canBeSeen_67 : decode cX4_canBeSeen 67 = .ok (.iinc 5 1, 3) := by decide +kernel
theorem dX4_canBeSeen_70 : decode cX4_canBeSeen 70 = .ok (.goto (-35), 3) := by decide +kernel
theorem dX4_canBeSeen_73 : decode cX4_canBeSeen 73 = .ok (.iconst 0, 1) := by decide +kernel
theorem dX4_canBeSeen_74 : decode cX4_canBeSeen 74 = .ok (.ireturn, 1) := by decide +kernel
theorem dX5_lay_0 : decode cX5_lay 0 = .ok (.aload_n 0, 1) := by decide +kernel
theorem dX5_lay_1 : decode cX5_lay 1 = .ok (.iconst 1, 1) := by decide +kernel
theorem dX5_lay_2 : decode cX5_lay 2 = .ok (.putfield 15, 3) := by decide +kernel
theorem dX5_lay_5 : decode cX5_lay 5 = .ok (.aload_n 0, 1) := by decide +kernel
theorem dX5_lay_6 : decode cX5_lay 6 = .ok (.iload_n 1, 1) := by decide +kernel
theorem dX5_lay_7 : decode cX5_lay 7 = .ok (.putfield 19, 3) := by decide +kernel
theorem dX5_lay_10 : decode cX5_lay 10 = .ok (.aload_n 0, 1) := by decide +kernel
theorem dX5_lay_11 : decode cX5_lay 11 = .ok (.iload_n 2, 1) := by decide +kernel
theorem dX5_lay_12 : decode cX5_lay 12 = .ok (.putfield 23, 3) := by decide +kernel
theorem dX5_lay_15 : decode cX5_lay 15 = .ok (.aload_n 0, 1) := by decide +kernel
theorem dX5_lay_16 : decode cX5_lay 16 = .ok (.getfield 9, 3) := by decide +kernel
theorem dX5_lay_19 : decode cX5_lay 19 = .ok (.lconst 0, 1) := by decide +kernel
theorem dX5_lay_20 : decode cX5_lay 20 = .ok (.invokestatic 26, 3) := by decide +kernel
theorem dX5_lay_23 : decode cX5_lay 23 = .ok (.return_, 1) := by decide +kernel
theorem dX5_cut_0 : decode cX5_cut 0 = .ok (.aload_n 0, 1) := by decide +kernel
theorem dX5_cut_1 : decode cX5_cut 1 = .ok (.getfield 19, 3) := by decide +kernel
theorem dX5_cut_4 : decode cX5_cut 4 = .ok (.tableswitch 42 0 2 #[28, 33, 38], 28) := by decide +kernel
theorem dX5_cut_32 : decode cX5_cut 32 = .ok (.lload_n 1, 1) := by decide +kernel
theorem dX5_cut_33 : decode cX5_cut 33 = .ok (.l2i, 1) := by decide +kernel
theorem dX5_cut_34 : decode cX5_cut 34 = .ok (.i2b, 1) := by decide +kernel
theorem dX5_cut_35 : decode cX5_cut 35 = .ok (.i2l, 1) := by decide +kernel
theorem dX5_cut_36 : decode cX5_cut 36 = .ok (.lreturn, 1) := by decide +kernel
theorem dX5_cut_37 : decode cX5_cut 37 = .ok (.lload_n 1, 1) := by decide +kernel
theorem dX5_cut_38 : decode cX5_cut 38 = .ok (.l2i, 1) := by decide +kernel
theorem dX5_cut_39 : decode cX5_cut 39 = .ok (.i2s, 1) := by decide +kernel
theorem dX5_cut_40 : decode cX5_cut 40 = .ok (.i2l, 1) := by decide +kernel
theorem dX5_cut_41 : decode cX5_cut 41 = .ok (.lreturn, 1) := by decide +kernel
theorem dX5_cut_42 : decode cX5_cut 42 = .ok (.lload_n 1, 1) := by decide +kernel
theorem dX5_cut_43 : decode cX5_cut 43 = .ok (.l2i, 1) := by decide +kernel
theorem dX5_cut_44 : decode cX5_cut 44 = .ok (.i2l, 1) := by decide +kernel
theorem dX5_cut_45 : decode cX5_cut 45 = .ok (.lreturn, 1) := by decide +kernel
theorem dX5_cut_46 : decode cX5_cut 46 = .ok (.lload_n 1, 1) := by decide +kernel
theorem dX5_cut_47 : decode cX5_cut 47 = .ok (.lreturn, 1) := by decide +kernel
theorem dX5_small_0 : decode cX5_small 0 = .ok (.iload_n 1, 1) := by decide +kernel
theorem dX5_small_1 : decode cX5_small 1 = .ok (.ifCond .lt 35, 3) := by decide +kernel
theorem dX5_small_4 : decode cX5_small 4 = .ok (.iload_n 1, 1) := by decide +kernel
theorem dX5_small_5 : decode cX5_small 5 = .ok (.aload_n 0, 1) := by decide +kernel
theorem dX5_small_6 : decode cX5_small 6 = .ok (.getfield 23, 3) := by decide +kernel
theorem dX5_small_9 : decode cX5_small 9 = .ok (.if_icmp .ge 27, 3) := by decide +kernel
theorem dX5_small_12 : decode cX5_small 12 = .ok (.aload_n 0, 1) := by decide +kernel
theorem dX5_small_13 : decode cX5_small 13 = .ok (.getfield 9, 3) := by decide +kernel
theorem dX5_small_16 : decode cX5_small 16 = .ok (.iload_n 1, 1) := by decide +kernel
theorem dX5_small_17 : decode cX5_small 17 = .ok (.laload, 1) := by decide +kernel
theorem dX5_small_18 : decode cX5_small 18 = .ok (.lconst 0, 1) := by decide +kernel
theorem dX5_small_19 : decode cX5_small 19 = .ok (.lcmp, 1) := by decide +kernel
theorem dX5_small_20 : decode cX5_small 20 = .ok (.ifCond .lt 16, 3) := by decide +kernel
theorem dX5_small_23 : decode cX5_small 23 = .ok (.aload_n 0, 1) := by decide +kernel
theorem dX5_small_24 : decode cX5_small 24 = .ok (.getfield 9, 3) := by decide +kernel
theorem dX5_small_27 : decode cX5_small 27 = .ok (.iload_n 1, 1) := by decide +kernel
theorem dX5_small_28 : decode cX5_small 28 = .ok (.laload, 1) := by decide +kernel
theorem dX5_small_29 : decode cX5_small 29 = .ok (.ldc2_w 32, 3) := by decide +kernel
theorem dX5_small_32 : decode cX5_small 32 = .ok (.lcmp, 1) := by decide +kernel
theorem dX5_small_33 : decode cX5_small 33 = .ok (.ifCond .lt 5, 3) := by decide +kernel
theorem dX5_small_36 : decode cX5_small 36 = .ok (.iconst (-1), 1) := by decide +kernel
theorem dX5_small_37 : decode cX5_small 37 = .ok (.ireturn, 1) := by decide +kernel
theorem dX5_small_38 : decode cX5_small 38 = .ok (.aload_n 0, 1) := by decide +kernel
theorem dX5_small_39 : decode cX5_small 39 = .ok (.getfield 9, 3) := by decide +kernel
theorem dX5_small_42 : decode cX5_small 42 = .ok (.iload_n 1, 1) := by decide +kernel
theorem dX5_small_43 : decode cX5_small 43 = .ok (.laload, 1) := by decide +kernel
theorem dX5_small_44 : decode cX5_small 44 = .ok (.l2i, 1) := by decide +kernel
theorem dX5_small_45 : decode cX5_small 45 = .ok (.ireturn, 1) := by decide +kernel
theorem dX5_hasRun_0 : decode cX5_hasRun 0 = .ok (.iload_n 1, 1) := by decide +kernel
theorem dX5_hasRun_1 : decode cX5_hasRun 1 = .ok (.ifCond .lt 29, 3) := by decide +kernel
theorem dX5_hasRun_4 : decode cX5_hasRun 4 = .ok (.iload_n 2, 1) := by decide +kernel
theorem dX5_hasRun_5 : decode cX5_hasRun 5 = .ok (.ifCond .lt 25, 3) := by decide +kernel
theorem dX5_hasRun_8 : decode cX5_hasRun 8 = .ok (.iload_n 2, 1) := by decide +kernel
theorem dX5_hasRun_9 : decode cX5_hasRun 9 = .ok (.aload_n 0, 1) := by decide +kernel
theorem dX5_hasRun_10 : decode cX5_hasRun 10 = .ok (.getfield 23, 3) := by decide +kernel
theorem dX5_hasRun_13 : decode cX5_hasRun 13 = .ok (.if_icmp .gt 17, 3) := by decide +kernel
theorem dX5_hasRun_16 : decode cX5_hasRun 16 = .ok (.iload_n 1, 1) := by decide +kernel
theorem dX5_hasRun_17 : decode cX5_hasRun 17 = .ok (.aload_n 0, 1) := by decide +kernel
theorem dX5_hasRun_18 : decode cX5_hasRun 18 = .ok (.getfield 23, 3) := by decide +kernel
theorem dX5_hasRun_21 : decode cX5_hasRun 21 = .ok (.iload_n 2, 1) := by decide +kernel
theorem dX5_hasRun_22 : decode cX5_hasRun 22 = .ok (.isub, 1) := by decide +kernel
theorem dX5_hasRun_23 : decode cX5_hasRun 23 = .ok (.if_icmp .gt 7, 3) := by decide +kernel
theorem dX5_hasRun_26 : decode cX5_hasRun 26 = .ok (.iconst 1, 1) := by decide +kernel
theorem dX5_hasRun_27 : decode cX5_hasRun 27 = .ok (.goto 4, 3) := by decide +kernel
