theorem dX4_plan_55 : decode cX4_plan 55 = .ok (.aload_n 1, 1) := by decide +kernel
theorem dX4_plan_56 : decode cX4_plan 56 = .ok (.getfield 56, 3) := by decide +kernel
theorem dX4_plan_59 : decode cX4_plan 59 = .ok (.getfield 62, 3) := by decide +kernel
theorem dX4_plan_62 : decode cX4_plan 62 = .ok (.if_icmp .ge 52, 3) := by decide +kernel
theorem dX4_plan_65 : decode cX4_plan 65 = .ok (.aload_n 0, 1) := by decide +kernel
theorem dX4_plan_66 : decode cX4_plan 66 = .ok (.getfield 53, 3) := by decide +kernel
theorem dX4_plan_69 : decode cX4_plan 69 = .ok (.bipush 10, 2) := by decide +kernel
theorem dX4_plan_71 : decode cX4_plan 71 = .ok (.if_icmp .ge 43, 3) := by decide +kernel
theorem dX4_plan_74 : decode cX4_plan 74 = .ok (.aload_n 1, 1) := by decide +kernel
theorem dX4_plan_75 : decode cX4_plan 75 = .ok (.getfield 67, 3) := by decide +kernel
theorem dX4_plan_78 : decode cX4_plan 78 = .ok (.iload_n 2, 1) := by decide +kernel
theorem dX4_plan_79 : decode cX4_plan 79 = .ok (.iload 4, 2) := by decide +kernel
theorem dX4_plan_81 : decode cX4_plan 81 = .ok (.invokevirtual 71, 3) := by decide +kernel
theorem dX4_plan_84 : decode cX4_plan 84 = .ok (.ifCond .eq 24, 3) := by decide +kernel
theorem dX4_plan_87 : decode cX4_plan 87 = .ok (.aload_n 0, 1) := by decide +kernel
theorem dX4_plan_88 : decode cX4_plan 88 = .ok (.getfield 22, 3) := by decide +kernel
theorem dX4_plan_91 : decode cX4_plan 91 = .ok (.aload_n 0, 1) := by decide +kernel
theorem dX4_plan_92 : decode cX4_plan 92 = .ok (.getfield 53, 3) := by decide +kernel
theorem dX4_plan_95 : decode cX4_plan 95 = .ok (.iload 4, 2) := by decide +kernel
theorem dX4_plan_97 : decode cX4_plan 97 = .ok (.iastore, 1) := by decide +kernel
theorem dX4_plan_98 : decode cX4_plan 98 = .ok (.aload_n 0, 1) := by decide +kernel
theorem dX4_plan_99 : decode cX4_plan 99 = .ok (.dup, 1) := by decide +kernel
theorem dX4_plan_100 : decode cX4_plan 100 = .ok (.getfield 53, 3) := by decide +kernel
theorem dX4_plan_103 : decode cX4_plan 103 = .ok (.iconst 1, 1) := by decide +kernel
theorem dX4_plan_104 : decode cX4_plan 104 = .ok (.iadd, 1) := by decide +kernel
theorem dX4_plan_105 : decode cX4_plan 105 = .ok (.putfield 53, 3) := by decide +kernel
theorem dX4_plan_108 : decode cX4_plan 108 = .ok (.iinc 4 1, 3) := by decide +kernel
theorem dX4_plan_111 : decode cX4_plan 111 = .ok (.goto (-58), 3) := by decide +kernel
theorem dX4_plan_114 : decode cX4_plan 114 = .ok (.aload_n 0, 1) := by decide +kernel
theorem dX4_plan_115 : decode cX4_plan 115 = .ok (.aload_n 1, 1) := by decide +kernel
theorem dX4_plan_116 : decode cX4_plan 116 = .ok (.iload_n 2, 1) := by decide +kernel
theorem dX4_plan_117 : decode cX4_plan 117 = .ok (.invokevirtual 77, 3) := by decide +kernel
theorem dX4_plan_120 : decode cX4_plan 120 = .ok (.aload_n 0, 1) := by decide +kernel
theorem dX4_plan_121 : decode cX4_plan 121 = .ok (.iload_n 2, 1) := by decide +kernel
theorem dX4_plan_122 : decode cX4_plan 122 = .ok (.aload_n 0, 1) := by decide +kernel
theorem dX4_plan_123 : decode cX4_plan 123 = .ok (.aload_n 1, 1) := by decide +kernel
theorem dX4_plan_124 : decode cX4_plan 124 = .ok (.iload_n 3, 1) := by decide +kernel
theorem dX4_plan_125 : decode cX4_plan 125 = .ok (.invokevirtual 81, 3) := by decide +kernel
theorem dX4_plan_128 : decode cX4_plan 128 = .ok (.invokevirtual 85, 3) := by decide +kernel
theorem dX4_plan_131 : decode cX4_plan 131 = .ok (.aload_n 0, 1) := by decide +kernel
theorem dX4_plan_132 : decode cX4_plan 132 = .ok (.aload_n 1, 1) := by decide +kernel
theorem dX4_plan_133 : decode cX4_plan 133 = .ok (.iload_n 2, 1) := by decide +kernel
theorem dX4_plan_134 : decode cX4_plan 134 = .ok (.invokevirtual 89, 3) := by decide +kernel
theorem dX4_plan_137 : decode cX4_plan 137 = .ok (.istore 4, 2) := by decide +kernel
theorem dX4_plan_139 : decode cX4_plan 139 = .ok (.aload_n 0, 1) := by decide +kernel
theorem dX4_plan_140 : decode cX4_plan 140 = .ok (.iload 4, 2) := by decide +kernel
theorem dX4_plan_142 : decode cX4_plan 142 = .ok (.aload_n 0, 1) := by decide +kernel
theorem dX4_plan_143 : decode cX4_plan 143 = .ok (.getfield 92, 3) := by decide +kernel
theorem dX4_plan_146 : decode cX4_plan 146 = .ok (.invokevirtual 95, 3) := by decide +kernel
theorem dX4_plan_149 : decode cX4_plan 149 = .ok (.aload_n 0, 1) := by decide +kernel
theorem dX4_plan_150 : decode cX4_plan 150 = .ok (.iload_n 2, 1) := by decide +kernel
theorem dX4_plan_151 : decode cX4_plan 151 = .ok (.iload 4, 2) := by decide +kernel
theorem dX4_plan_153 : decode cX4_plan 153 = .ok (.invokevirtual 98, 3) := by decide +kernel
theorem dX4_plan_156 : decode cX4_plan 156 = .ok (.return_, 1) := by decide +kernel
theorem dX4_lookAtSpots_0 : decode cX4_lookAtSpots 0 = .ok (.iconst 0, 1) := by decide +kernel
theorem dX4_lookAtSpots_1 : decode cX4_lookAtSpots 1 = .ok (.istore_n 3, 1) := by decide +kernel
theorem dX4_lookAtSpots_2 : decode cX4_lookAtSpots 2 = .ok (.iload_n 3, 1) := by decide +kernel
theorem dX4_lookAtSpots_3 : decode cX4_lookAtSpots 3 = .ok (.aload_n 0, 1) := by decide +kernel
theorem dX4_lookAtSpots_4 : decode cX4_lookAtSpots 4 = .ok (.getfield 53, 3) := by decide +kernel
theorem dX4_lookAtSpots_7 : decode cX4_lookAtSpots 7 = .ok (.if_icmp .ge 99, 3) := by decide +kernel
theorem dX4_lookAtSpots_10 : decode cX4_lookAtSpots 10 = .ok (.aload_n 0, 1) := by decide +kernel
theorem dX4_lookAtSpots_11 : decode cX4_lookAtSpots 11 = .ok (.getfield 22, 3) := by decide +kernel
theorem dX4_lookAtSpots_14 : decode cX4_lookAtSpots 14 = .ok (.iload_n 3, 1) := by decide +kernel
theorem dX4_lookAtSpots_15 : decode cX4_lookAtSpots 15 = .ok (.iaload, 1) := by decide +kernel
theorem dX4_lookAtSpots_16 : decode cX4_lookAtSpots 16 = .ok (.istore 4, 2) := by decide +kernel
theorem dX4_lookAtSpots_18 : decode cX4_lookAtSpots 18 = .ok (.aload_n 0, 1) := by decide +kernel
theorem dX4_lookAtSpots_19 : decode cX4_lookAtSpots 19 = .ok (.aload_n 1, 1) := by decide +kernel
theorem dX4_lookAtSpots_20 : decode cX4_lookAtSpots 20 = .ok (.iload_n 2, 1) := by decide +kernel
theorem dX4_lookAtSpots_21 : decode cX4_lookAtSpots 21 = .ok (.iload 4, 2) := by decide +kernel
theorem dX4_lookAtSpots_23 : decode cX4_lookAtSpots 23 = .ok (.invokevirtual 101, 3) := by decide +kernel
theorem dX4_lookAtSpots_26 : decode cX4_lookAtSpots 26 = .ok (.aload_n 0, 1) := by decide +kernel
theorem dX4_lookAtSpots_27 : decode cX4_lookAtSpots 27 = .ok (.getfield 37, 3) := by decide +kernel
theorem dX4_lookAtSpots_30 : decode cX4_lookAtSpots 30 = .ok (.iload_n 2, 1) := by decide +kernel
theorem dX4_lookAtSpots_31 : decode cX4_lookAtSpots 31 = .ok (.bipush 16, 2) := by decide +kernel
theorem dX4_lookAtSpots_33 : decode cX4_lookAtSpots 33 = .ok (.imul, 1) := by decide +kernel
theorem dX4_lookAtSpots_34 : decode cX4_lookAtSpots 34 = .ok (.iload 4, 2) := by decide +kernel
theorem dX4_lookAtSpots_36 : decode cX4_lookAtSpots 36 = .ok (.iadd, 1) := by decide +kernel
theorem dX4_lookAtSpots_37 : decode cX4_lookAtSpots 37 = .ok (.aload_n 1, 1) := by decide +kernel
theorem dX4_lookAtSpots_38 : decode cX4_lookAtSpots 38 = .ok (.getfield 56, 3) := by decide +kernel
theorem dX4_lookAtSpots_41 : decode cX4_lookAtSpots 41 = .ok (.iload_n 2, 1) := by decide +kernel
theorem dX4_lookAtSpots_42 : decode cX4_lookAtSpots 42 = .ok (.iload 4, 2) := by decide +kernel
theorem dX4_lookAtSpots_44 : decode cX4_lookAtSpots 44 = .ok (.invokevirtual 105, 3) := by decide +kernel
theorem dX4_lookAtSpots_47 : decode cX4_lookAtSpots 47 = .ok (.iastore, 1) := by decide +kernel
theorem dX4_lookAtSpots_48 : decode cX4_lookAtSpots 48 = .ok (.iconst 0, 1) := by decide +kernel
theorem dX4_lookAtSpots_49 : decode cX4_lookAtSpots 49 = .ok (.istore 5, 2) := by decide +kernel
theorem dX4_lookAtSpots_51 : decode cX4_lookAtSpots 51 = .ok (.iload 5, 2) := by decide +kernel
theorem dX4_lookAtSpots_53 : decode cX4_lookAtSpots 53 = .ok (.aload_n 0, 1) := by decide +kernel
theorem dX4_lookAtSpots_54 : decode cX4_lookAtSpots 54 = .ok (.getfield 53, 3) := by decide +kernel
theorem dX4_lookAtSpots_57 : decode cX4_lookAtSpots 57 = .ok (.if_icmp .ge 43, 3) := by decide +kernel
theorem dX4_lookAtSpots_60 : decode cX4_lookAtSpots 60 = .ok (.aload_n 0, 1) := by decide +kernel
theorem dX4_lookAtSpots_61 : decode cX4_lookAtSpots 61 = .ok (.getfield 37, 3) := by decide +kernel
theorem dX4_lookAtSpots_64 : decode cX4_lookAtSpots 64 = .ok (.iload 4, 2) := by decide +kernel
theorem dX4_lookAtSpots_66 : decode cX4_lookAtSpots 66 = .ok (.bipush 16, 2) := by decide +kernel
theorem dX4_lookAtSpots_68 : decode cX4_lookAtSpots 68 = .ok (.imul, 1) := by decide +kernel
theorem dX4_lookAtSpots_69 : decode cX4_lookAtSpots 69 = .ok (.aload_n 0, 1) := by decide +kernel
theorem dX4_lookAtSpots_70 : decode cX4_lookAtSpots 70 = .ok (.getfield 22, 3) := by decide +kernel
theorem dX4_lookAtSpots_73 : decode cX4_lookAtSpots 73 = .ok (.iload 5, 2) := by decide +kernel
theorem dX4_lookAtSpots_75 : decode cX4_lookAtSpots 75 = .ok (.iaload, 1) := by decide +kernel
theorem dX4_lookAtSpots_76 : decode cX4_lookAtSpots 76 = .ok (.iadd, 1) := by decide +kernel
theorem dX4_lookAtSpots_77 : decode cX4_lookAtSpots 77 = .ok (.aload_n 1, 1) := by decide +kernel
theorem dX4_lookAtSpots_78 : decode cX4_lookAtSpots 78 = .ok (.getfield 56, 3) := by decide +kernel
theorem dX4_lookAtSpots_81 : decode cX4_lookAtSpots 81 = .ok (.iload 4, 2) := by decide +kernel
theorem dX4_lookAtSpots_83 : decode cX4_lookAtSpots 83 = .ok (.aload_n 0, 1) := by decide +kernel
theorem dX4_lookAtSpots_84 : decode cX4_lookAtSpots 84 = .ok (.getfield 22, 3) := by decide +kernel
theorem dX4_lookAtSpots_87 : decode cX4_lookAtSpots 87 = .ok (.iload 5, 2) := by decide +kernel
theorem dX4_lookAtSpots_89 : decode cX4_lookAtSpots 89 = .ok (.iaload, 1) := by decide +kernel
theorem dX4_lookAtSpots_90 : decode cX4_lookAtSpots 90 = .ok (.invokevirtual 105, 3) := by decide +kernel
theorem dX4_lookAtSpots_93 : decode cX4_lookAtSpots 93 = .ok (.iastore, 1) := by decide +kernel
theorem dX4_lookAtSpots_94 : decode cX4_lookAtSpots 94 = .ok (.iinc 5 1, 3) := by decide +kernel
theorem dX4_lookAtSpots_97 : decode cX4_lookAtSpots 97 = .ok (.goto (-46), 3) := by decide +kernel
theorem dX4_lookAtSpots_100 : decode cX4_lookAtSpots 100 = .ok (.iinc 3 1, 3) := by decide +kernel
theorem dX4_lookAtSpots_103 : decode cX4_lookAtSpots 103 = .ok (.goto (-101), 3) := by decide +kernel
theorem dX4_lookAtSpots_106 : decode cX4_lookAtSpots 106 = .ok (.return_, 1) := by decide +kernel
theorem dX4_lookAt_0 : decode cX4_lookAt 0 = .ok (.aload_n 1, 1) := by decide +kernel
theorem dX4_lookAt_1 : decode cX4_lookAt 1 = .ok (.iload_n 2, 1) := by decide +kernel
theorem dX4_lookAt_2 : decode cX4_lookAt 2 = .ok (.iload_n 3, 1) := by decide +kernel
theorem dX4_lookAt_3 : decode cX4_lookAt 3 = .ok (.invokestatic 108, 3) := by decide +kernel
theorem dX4_lookAt_6 : decode cX4_lookAt 6 = .ok (.istore 4, 2) := by decide +kernel
theorem dX4_lookAt_8 : decode cX4_lookAt 8 = .ok (.aload_n 0, 1) := by decide +kernel
theorem dX4_lookAt_9 : decode cX4_lookAt 9 = .ok (.getfield 28, 3) := by decide +kernel
theorem dX4_lookAt_12 : decode cX4_lookAt 12 = .ok (.iload_n 3, 1) := by decide +kernel
theorem dX4_lookAt_13 : decode cX4_lookAt 13 = .ok (.iload 4, 2) := by decide +kernel
theorem dX4_lookAt_15 : decode cX4_lookAt 15 = .ok (.ifCond .eq 15, 3) := by decide +kernel
theorem dX4_lookAt_18 : decode cX4_lookAt 18 = .ok (.aload_n 1, 1) := by decide +kernel
theorem dX4_lookAt_19 : decode cX4_lookAt 19 = .ok (.getfield 56, 3) := by decide +kernel
theorem dX4_lookAt_22 : decode cX4_lookAt 22 = .ok (.getfield 112, 3) := by decide +kernel
theorem dX4_lookAt_25 : decode cX4_lookAt 25 = .ok (.iload_n 3, 1) := by decide +kernel
theorem dX4_lookAt_26 : decode cX4_lookAt 26 = .ok (.iaload, 1) := by decide +kernel
theorem dX4_lookAt_27 : decode cX4_lookAt 27 = .ok (.goto 4, 3) := by decide +kernel
theorem dX4_lookAt_30 : decode cX4_lookAt 30 = .ok (.iconst 0, 1) := by decide +kernel
theorem dX4_lookAt_31 : decode cX4_lookAt 31 = .ok (.iastore, 1) := by decide +kernel
theorem dX4_lookAt_32 : decode cX4_lookAt 32 = .ok (.aload_n 0, 1) := by decide +kernel
theorem dX4_lookAt_33 : decode cX4_lookAt 33 = .ok (.getfield 31, 3) := by decide +kernel
theorem dX4_lookAt_36 : decode cX4_lookAt 36 = .ok (.iload_n 3, 1) := by decide +kernel
theorem dX4_lookAt_37 : decode cX4_lookAt 37 = .ok (.iload 4, 2) := by decide +kernel
theorem dX4_lookAt_39 : decode cX4_lookAt 39 = .ok (.ifCond .eq 15, 3) := by decide +kernel
theorem dX4_lookAt_42 : decode cX4_lookAt 42 = .ok (.aload_n 1, 1) := by decide +kernel
theorem dX4_lookAt_43 : decode cX4_lookAt 43 = .ok (.getfield 56, 3) := by decide +kernel
theorem dX4_lookAt_46 : decode cX4_lookAt 46 = .ok (.getfield 115, 3) := by decide +kernel
theorem dX4_lookAt_49 : decode cX4_lookAt 49 = .ok (.iload_n 3, 1) := by decide +kernel
theorem dX4_lookAt_50 : decode cX4_lookAt 50 = .ok (.iaload, 1) := by decide +kernel
theorem dX4_lookAt_51 : decode cX4_lookAt 51 = .ok (.goto 6, 3) := by decide +kernel
theorem dX4_lookAt_54 : decode cX4_lookAt 54 = .ok (.sipush 180, 3) := by decide +kernel
theorem dX4_lookAt_57 : decode cX4_lookAt 57 = .ok (.iastore, 1) := by decide +kernel
theorem dX4_lookAt_58 : decode cX4_lookAt 58 = .ok (.aload_n 0, 1) := by decide +kernel
theorem dX4_lookAt_59 : decode cX4_lookAt 59 = .ok (.getfield 34, 3) := by decide +kernel
theorem dX4_lookAt_62 : decode cX4_lookAt 62 = .ok (.iload_n 3, 1) := by decide +kernel
theorem dX4_lookAt_63 : decode cX4_lookAt 63 = .ok (.iload 4, 2) := by decide +kernel
theorem dX4_lookAt_65 : decode cX4_lookAt 65 = .ok (.ifCond .eq 8, 3) := by decide +kernel
theorem dX4_lookAt_68 : decode cX4_lookAt 68 = .ok (.bipush 15, 2) := by decide +kernel
theorem dX4_lookAt_70 : decode cX4_lookAt 70 = .ok (.goto 4, 3) := by decide +kernel
theorem dX4_lookAt_73 : decode cX4_lookAt 73 = .ok (.iconst 0, 1) := by decide +kernel
theorem dX4_lookAt_74 : decode cX4_lookAt 74 = .ok (.iastore, 1) := by decide +kernel
theorem dX4_lookAt_75 : decode cX4_lookAt 75 = .ok (.return_, 1) := by decide +kernel
theorem dX4_isByCall_0 : decode cX4_isByCall 0 = .ok (.aload_n 0, 1) := by decide +kernel
theorem dX4_isByCall_1 : decode cX4_isByCall 1 = .ok (.getfield 67, 3) := by decide +kernel
theorem dX4_isByCall_4 : decode cX4_isByCall 4 = .ok (.iload_n 1, 1) := by decide +kernel
theorem dX4_isByCall_5 : decode cX4_isByCall 5 = .ok (.iload_n 2, 1) := by decide +kernel
theorem dX4_isByCall_6 : decode cX4_isByCall 6 = .ok (.invokevirtual 71, 3) := by decide +kernel
theorem dX4_isByCall_9 : decode cX4_isByCall 9 = .ok (.iconst 2, 1) := by decide +kernel
theorem dX4_isByCall_10 : decode cX4_isByCall 10 = .ok (.ishr, 1) := by decide +kernel
theorem dX4_isByCall_11 : decode cX4_isByCall 11 = .ok (.ifCond .eq 7, 3) := by decide +kernel
theorem dX4_isByCall_14 : decode cX4_isByCall 14 = .ok (.iconst 1, 1) := by decide +kernel
theorem dX4_isByCall_15 : decode cX4_isByCall 15 = .ok (.goto 4, 3) := by decide +kernel
theorem dX4_isByCall_18 : decode cX4_isByCall 18 = .ok (.iconst 0, 1) := by decide +kernel
theorem dX4_isByCall_19 : decode cX4_isByCall 19 = .ok (.ireturn, 1) := by decide +kernel
theorem dX4_isAtHome_0 : decode cX4_isAtHome 0 = .ok (.aload_n 0, 1) := by decide +kernel
theorem dX4_isAtHome_1 : decode cX4_isAtHome 1 = .ok (.iload_n 1, 1) := by decide +kernel
theorem dX4_isAtHome_2 : decode cX4_isAtHome 2 = .ok (.iload_n 2, 1) := by decide +kernel
theorem dX4_isAtHome_3 : decode cX4_isAtHome 3 = .ok (.invokestatic 108, 3) := by decide +kernel
theorem dX4_isAtHome_6 : decode cX4_isAtHome 6 = .ok (.ifCond .eq 19, 3) := by decide +kernel
theorem dX4_isAtHome_9 : decode cX4_isAtHome 9 = .ok (.aload_n 0, 1) := by decide +kernel
theorem dX4_isAtHome_10 : decode cX4_isAtHome 10 = .ok (.getfield 56, 3) := by decide +kernel
theorem dX4_isAtHome_13 : decode cX4_isAtHome 13 = .ok (.getfield 118, 3) := by decide +kernel
theorem dX4_isAtHome_16 : decode cX4_isAtHome 16 = .ok (.iload_n 2, 1) := by decide +kernel
theorem dX4_isAtHome_17 : decode cX4_isAtHome 17 = .ok (.iaload, 1) := by decide +kernel
theorem dX4_isAtHome_18 : decode cX4_isAtHome 18 = .ok (.iload_n 3, 1) := by decide +kernel
theorem dX4_isAtHome_19 : decode cX4_isAtHome 19 = .ok (.bipush 7, 2) := by decide +kernel
theorem dX4_isAtHome_21 : decode cX4_isAtHome 21 = .ok (.irem, 1) := by decide +kernel
theorem dX4_isAtHome_22 : decode cX4_isAtHome 22 = .ok (.if_icmp .ne 7, 3) := by decide +kernel
theorem dX4_isAtHome_25 : decode cX4_isAtHome 25 = .ok (.iconst 1, 1) := by decide +kernel
theorem dX4_isAtHome_26 : decode cX4_isAtHome 26 = .ok (.goto 4, 3) := by decide +kernel
theorem dX4_isAtHome_29 : decode cX4_isAtHome 29 = .ok (.iconst 0, 1) := by decide +kernel
theorem dX4_isAtHome_30 : decode cX4_isAtHome 30 = .ok (.ireturn, 1) := by decide +kernel
theorem dX4_openSpots_0 : decode cX4_openSpots 0 = .ok (.iconst 0, 1) := by decide +kernel
theorem dX4_openSpots_1 : decode cX4_openSpots 1 = .ok (.istore_n 3, 1) := by decide +kernel
theorem dX4_openSpots_2 : decode cX4_openSpots 2 = .ok (.iconst 0, 1) := by decide +kernel
theorem dX4_openSpots_3 : decode cX4_openSpots 3 = .ok (.istore 4, 2) := by decide +kernel
theorem dX4_openSpots_5 : decode cX4_openSpots 5 = .ok (.iload 4, 2) := by decide +kernel
theorem dX4_openSpots_7 : decode cX4_openSpots 7 = .ok (.aload_n 0, 1) := by decide +kernel
theorem dX4_openSpots_8 : decode cX4_openSpots 8 = .ok (.getfield 53, 3) := by decide +kernel
theorem dX4_openSpots_11 : decode cX4_openSpots 11 = .ok (.if_icmp .ge 35, 3) := by decide +kernel
theorem dX4_openSpots_14 : decode cX4_openSpots 14 = .ok (.aload_n 1, 1) := by decide +kernel
theorem dX4_openSpots_15 : decode cX4_openSpots 15 = .ok (.aload_n 0, 1) := by decide +kernel
theorem dX4_openSpots_16 : decode cX4_openSpots 16 = .ok (.getfield 15, 3) := by decide +kernel
theorem dX4_openSpots_19 : decode cX4_openSpots 19 = .ok (.aload_n 0, 1) := by decide +kernel
theorem dX4_openSpots_20 : decode cX4_openSpots 20 = .ok (.getfield 22, 3) := by decide +kernel
theorem dX4_openSpots_23 : decode cX4_openSpots 23 = .ok (.iload 4, 2) := by decide +kernel
theorem dX4_openSpots_25 : decode cX4_openSpots 25 = .ok (.iaload, 1) := by decide +kernel
theorem dX4_openSpots_26 : decode cX4_openSpots 26 = .ok (.iload_n 2, 1) := by decide +kernel
theorem dX4_openSpots_27 : decode cX4_openSpots 27 = .ok (.invokestatic 120, 3) := by decide +kernel
theorem dX4_openSpots_30 : decode cX4_openSpots 30 = .ok (.ifCond .eq 10, 3) := by decide +kernel
theorem dX4_openSpots_33 : decode cX4_openSpots 33 = .ok (.iload_n 3, 1) := by decide +kernel
theorem dX4_openSpots_34 : decode cX4_openSpots 34 = .ok (.iconst 1, 1) := by decide +kernel
theorem dX4_openSpots_35 : decode cX4_openSpots 35 = .ok (.iload 4, 2) := by decide +kernel
theorem dX4_openSpots_37 : decode cX4_openSpots 37 = .ok (.ishl, 1) := by decide +kernel
theorem dX4_openSpots_38 : decode cX4_openSpots 38 = .ok (.ior, 1) := by decide +kernel
theorem dX4_openSpots_39 : decode cX4_openSpots 39 = .ok (.istore_n 3, 1) := by decide +kernel
theorem dX4_openSpots_40 : decode cX4_openSpots 40 = .ok (.iinc 4 1, 3) := by decide +kernel
theorem dX4_openSpots_43 : decode cX4_openSpots 43 = .ok (.goto (-38), 3) := by decide +kernel
theorem dX4_openSpots_46 : decode cX4_openSpots 46 = .ok (.iload_n 3, 1) := by decide +kernel
theorem dX4_openSpots_47 : decode cX4_openSpots 47 = .ok (.ireturn, 1) := by decide +kernel
theorem dX4_seen_0 : decode cX4_seen 0 = .ok (.iload_n 2, 1) := by decide +kernel
theorem dX4_seen_1 : decode cX4_seen 1 = .ok (.aload_n 0, 1) := by decide +kernel
theorem dX4_seen_2 : decode cX4_seen 2 = .ok (.getfield 28, 3) := by decide +kernel
theorem dX4_seen_5 : decode cX4_seen 5 = .ok (.iload_n 1, 1) := by decide +kernel
theorem dX4_seen_6 : decode cX4_seen 6 = .ok (.iaload, 1) := by decide +kernel
theorem dX4_seen_7 : decode cX4_seen 7 = .ok (.invokestatic 124, 3) := by decide +kernel
theorem dX4_seen_10 : decode cX4_seen 10 = .ok (.aload_n 0, 1) := by decide +kernel
theorem dX4_seen_11 : decode cX4_seen 11 = .ok (.getfield 34, 3) := by decide +kernel
theorem dX4_seen_14 : decode cX4_seen 14 = .ok (.iload_n 1, 1) := by decide +kernel
theorem dX4_seen_15 : decode cX4_seen 15 = .ok (.iaload, 1) := by decide +kernel
theorem dX4_seen_16 : decode cX4_seen 16 = .ok (.iadd, 1) := by decide +kernel
theorem dX4_seen_17 : decode cX4_seen 17 = .ok (.istore_n 3, 1) := by decide +kernel
theorem dX4_seen_18 : decode cX4_seen 18 = .ok (.iload_n 3, 1) := by decide +kernel
theorem dX4_seen_19 : decode cX4_seen 19 = .ok (.aload_n 0, 1) := by decide +kernel
theorem dX4_seen_20 : decode cX4_seen 20 = .ok (.getfield 31, 3) := by decide +kernel
theorem dX4_seen_23 : decode cX4_seen 23 = .ok (.iload_n 1, 1) := by decide +kernel
theorem dX4_seen_24 : decode cX4_seen 24 = .ok (.iaload, 1) := by decide +kernel
theorem dX4_seen_25 : decode cX4_seen 25 = .ok (.if_icmp .le 9, 3) := by decide +kernel
theorem dX4_seen_28 : decode cX4_seen 28 = .ok (.sipush 1000, 3) := by decide +kernel
theorem dX4_seen_31 : decode cX4_seen 31 = .ok (.goto 4, 3) := by decide +kernel
theorem dX4_seen_34 : decode cX4_seen 34 = .ok (.iload_n 3, 1) := by decide +kernel
theorem dX4_seen_35 : decode cX4_seen 35 = .ok (.ireturn, 1) := by decide +kernel
theorem dX4_reckonMinutes_0 : decode cX4_reckonMinutes 0 = .ok (.iconst 1, 1) := by decide +kernel
theorem dX4_reckonMinutes_1 : decode cX4_reckonMinutes 1 = .ok (.aload_n 0, 1) := by decide +kernel
theorem dX4_reckonMinutes_2 : decode cX4_reckonMinutes 2 = .ok (.getfield 53, 3) := by decide +kernel
theorem dX4_reckonMinutes_5 : decode cX4_reckonMinutes 5 = .ok (.ishl, 1) := by decide +kernel
theorem dX4_reckonMinutes_6 : decode cX4_reckonMinutes 6 = .ok (.istore_n 3, 1) := by decide +kernel
theorem dX4_reckonMinutes_7 : decode cX4_reckonMinutes 7 = .ok (.aload_n 0, 1) := by decide +kernel
theorem dX4_reckonMinutes_8 : decode cX4_reckonMinutes 8 = .ok (.getfield 43, 3) := by decide +kernel
theorem dX4_reckonMinutes_11 : decode cX4_reckonMinutes 11 = .ok (.iconst 0, 1) := by decide +kernel
theorem dX4_reckonMinutes_12 : decode cX4_reckonMinutes 12 = .ok (.iconst 0, 1) := by decide +kernel
theorem dX4_reckonMinutes_13 : decode cX4_reckonMinutes 13 = .ok (.iastore, 1) := by decide +kernel
theorem dX4_reckonMinutes_14 : decode cX4_reckonMinutes 14 = .ok (.iconst 1, 1) := by decide +kernel
theorem dX4_reckonMinutes_15 : decode cX4_reckonMinutes 15 = .ok (.istore 4, 2) := by decide +kernel
theorem dX4_reckonMinutes_17 : decode cX4_reckonMinutes 17 = .ok (.iload 4, 2) := by decide +kernel
theorem dX4_reckonMinutes_19 : decode cX4_reckonMinutes 19 = .ok (.iload_n 3, 1) := by decide +kernel
theorem dX4_reckonMinutes_20 : decode cX4_reckonMinutes 20 = .ok (.if_icmp .ge 117, 3) := by decide +kernel
theorem dX4_reckonMinutes_23 : decode cX4_reckonMinutes 23 = .ok (.sipush 1000, 3) := by decide +kernel
theorem dX4_reckonMinutes_26 : decode cX4_reckonMinutes 26 = .ok (.istore 5, 2) := by decide +kernel
theorem dX4_reckonMinutes_28 : decode cX4_reckonMinutes 28 = .ok (.iload 4, 2) := by decide +kernel
theorem dX4_reckonMinutes_30 : decode cX4_reckonMinutes 30 = .ok (.iload_n 2, 1) := by decide +kernel
theorem dX4_reckonMinutes_31 : decode cX4_reckonMinutes 31 = .ok (.iconst (-1), 1) := by decide +kernel
theorem dX4_reckonMinutes_32 : decode cX4_reckonMinutes 32 = .ok (.ixor, 1) := by decide +kernel
theorem dX4_reckonMinutes_33 : decode cX4_reckonMinutes 33 = .ok (.iand, 1) := by decide +kernel
theorem dX4_reckonMinutes_34 : decode cX4_reckonMinutes 34 = .ok (.ifCond .ne 88, 3) := by decide +kernel
theorem dX4_reckonMinutes_37 : decode cX4_reckonMinutes 37 = .ok (.iconst 0, 1) := by decide +kernel
theorem dX4_reckonMinutes_38 : decode cX4_reckonMinutes 38 = .ok (.istore 6, 2) := by decide +kernel
theorem dX4_reckonMinutes_40 : decode cX4_reckonMinutes 40 = .ok (.iload 6, 2) := by decide +kernel
theorem dX4_reckonMinutes_42 : decode cX4_reckonMinutes 42 = .ok (.aload_n 0, 1) := by decide +kernel
theorem dX4_reckonMinutes_43 : decode cX4_reckonMinutes 43 = .ok (.getfield 53, 3) := by decide +kernel
theorem dX4_reckonMinutes_46 : decode cX4_reckonMinutes 46 = .ok (.if_icmp .ge 76, 3) := by decide +kernel
theorem dX4_reckonMinutes_49 : decode cX4_reckonMinutes 49 = .ok (.iload 4, 2) := by decide +kernel
theorem dX4_reckonMinutes_51 : decode cX4_reckonMinutes 51 = .ok (.iload 6, 2) := by decide +kernel
theorem dX4_reckonMinutes_53 : decode cX4_reckonMinutes 53 = .ok (.ishr, 1) := by decide +kernel
theorem dX4_reckonMinutes_54 : decode cX4_reckonMinutes 54 = .ok (.iconst 1, 1) := by decide +kernel
theorem dX4_reckonMinutes_55 : decode cX4_reckonMinutes 55 = .ok (.iand, 1) := by decide +kernel
theorem dX4_reckonMinutes_56 : decode cX4_reckonMinutes 56 = .ok (.iconst 1, 1) := by decide +kernel
theorem dX4_reckonMinutes_57 : decode cX4_reckonMinutes 57 = .ok (.if_icmp .ne 59, 3) := by decide +kernel
theorem dX4_reckonMinutes_60 : decode cX4_reckonMinutes 60 = .ok (.aload_n 0, 1) := by decide +kernel
theorem dX4_reckonMinutes_61 : decode cX4_reckonMinutes 61 = .ok (.aload_n 0, 1) := by decide +kernel
theorem dX4_reckonMinutes_62 : decode cX4_reckonMinutes 62 = .ok (.getfield 22, 3) := by decide +kernel
theorem dX4_reckonMinutes_65 : decode cX4_reckonMinutes 65 = .ok (.iload 6, 2) := by decide +kernel
theorem dX4_reckonMinutes_67 : decode cX4_reckonMinutes 67 = .ok (.iaload, 1) := by decide +kernel
theorem dX4_reckonMinutes_68 : decode cX4_reckonMinutes 68 = .ok (.aload_n 0, 1) := by decide +kernel
theorem dX4_reckonMinutes_69 : decode cX4_reckonMinutes 69 = .ok (.iload_n 1, 1) := by decide +kernel
theorem dX4_reckonMinutes_70 : decode cX4_reckonMinutes 70 = .ok (.iload 4, 2) := by decide +kernel
theorem dX4_reckonMinutes_72 : decode cX4_reckonMinutes 72 = .ok (.iconst 1, 1) := by decide +kernel
theorem dX4_reckonMinutes_73 : decode cX4_reckonMinutes 73 = .ok (.iload 6, 2) := by decide +kernel
theorem dX4_reckonMinutes_75 : decode cX4_reckonMinutes 75 = .ok (.ishl, 1) := by decide +kernel
theorem dX4_reckonMinutes_76 : decode cX4_reckonMinutes 76 = .ok (.ixor, 1) := by decide +kernel
theorem dX4_reckonMinutes_77 : decode cX4_reckonMinutes 77 = .ok (.aload_n 0, 1) := by decide +kernel
theorem dX4_reckonMinutes_78 : decode cX4_reckonMinutes 78 = .ok (.getfield 22, 3) := by decide +kernel
theorem dX4_reckonMinutes_81 : decode cX4_reckonMinutes 81 = .ok (.iload 6, 2) := by decide +kernel
theorem dX4_reckonMinutes_83 : decode cX4_reckonMinutes 83 = .ok (.iaload, 1) := by decide +kernel
theorem dX4_reckonMinutes_84 : decode cX4_reckonMinutes 84 = .ok (.invokevirtual 129, 3) := by decide +kernel
theorem dX4_reckonMinutes_87 : decode cX4_reckonMinutes 87 = .ok (.invokevirtual 133, 3) := by decide +kernel
theorem dX4_reckonMinutes_90 : decode cX4_reckonMinutes 90 = .ok (.istore 7, 2) := by decide +kernel
theorem dX4_reckonMinutes_92 : decode cX4_reckonMinutes 92 = .ok (.aload_n 0, 1) := by decide +kernel
theorem dX4_reckonMinutes_93 : decode cX4_reckonMinutes 93 = .ok (.getfield 40, 3) := by decide +kernel
theorem dX4_reckonMinutes_96 : decode cX4_reckonMinutes 96 = .ok (.iload 4, 2) := by decide +kernel
theorem dX4_reckonMinutes_98 : decode cX4_reckonMinutes 98 = .ok (.bipush 10, 2) := by decide +kernel
theorem dX4_reckonMinutes_100 : decode cX4_reckonMinutes 100 = .ok (.imul, 1) := by decide +kernel
theorem dX4_reckonMinutes_101 : decode cX4_reckonMinutes 101 = .ok (.iload 6, 2) := by decide +kernel
theorem dX4_reckonMinutes_103 : decode cX4_reckonMinutes 103 = .ok (.iadd, 1) := by decide +kernel
theorem dX4_reckonMinutes_104 : decode cX4_reckonMinutes 104 = .ok (.iload 7, 2) := by decide +kernel
theorem dX4_reckonMinutes_106 : decode cX4_reckonMinutes 106 = .ok (.iastore, 1) := by decide +kernel
theorem dX4_reckonMinutes_107 : decode cX4_reckonMinutes 107 = .ok (.iload 5, 2) := by decide +kernel
theorem dX4_reckonMinutes_109 : decode cX4_reckonMinutes 109 = .ok (.iload 7, 2) := by decide +kernel
theorem dX4_reckonMinutes_111 : decode cX4_reckonMinutes 111 = .ok (.invokestatic 136, 3) := by decide +kernel
theorem dX4_reckonMinutes_114 : decode cX4_reckonMinutes 114 = .ok (.istore 5, 2) := by decide +kernel
theorem dX4_reckonMinutes_116 : decode cX4_reckonMinutes 116 = .ok (.iinc 6 1, 3) := by decide +kernel
theorem dX4_reckonMinutes_119 : decode cX4_reckonMinutes 119 = .ok (.goto (-79), 3) := by decide +kernel
theorem dX4_reckonMinutes_122 : decode cX4_reckonMinutes 122 = .ok (.aload_n 0, 1) := by decide +kernel
theorem dX4_reckonMinutes_123 : decode cX4_reckonMinutes 123 = .ok (.getfield 43, 3) := by decide +kernel
theorem dX4_reckonMinutes_126 : decode cX4_reckonMinutes 126 = .ok (.iload 4, 2) := by decide +kernel
theorem dX4_reckonMinutes_128 : decode cX4_reckonMinutes 128 = .ok (.iload 5, 2) := by decide +kernel
theorem dX4_reckonMinutes_130 : decode cX4_reckonMinutes 130 = .ok (.iastore, 1) := by decide +kernel
theorem dX4_reckonMinutes_131 : decode cX4_reckonMinutes 131 = .ok (.iinc 4 1, 3) := by decide +kernel
theorem dX4_reckonMinutes_134 : decode cX4_reckonMinutes 134 = .ok (.goto (-117), 3) := by decide +kernel
theorem dX4_reckonMinutes_137 : decode cX4_reckonMinutes 137 = .ok (.return_, 1) := by decide +kernel
theorem dX4_arrival_0 : decode cX4_arrival 0 = .ok (.iload_n 2, 1) := by decide +kernel
theorem dX4_arrival_1 : decode cX4_arrival 1 = .ok (.ifCond .ne 15, 3) := by decide +kernel
theorem dX4_arrival_4 : decode cX4_arrival 4 = .ok (.aload_n 0, 1) := by decide +kernel
theorem dX4_arrival_5 : decode cX4_arrival 5 = .ok (.getfield 37, 3) := by decide +kernel
theorem dX4_arrival_8 : decode cX4_arrival 8 = .ok (.iload_n 1, 1) := by decide +kernel
theorem dX4_arrival_9 : decode cX4_arrival 9 = .ok (.bipush 16, 2) := by decide +kernel
theorem dX4_arrival_11 : decode cX4_arrival 11 = .ok (.imul, 1) := by decide +kernel
theorem dX4_arrival_12 : decode cX4_arrival 12 = .ok (.iload_n 3, 1) := by decide +kernel
theorem dX4_arrival_13 : decode cX4_arrival 13 = .ok (.iadd, 1) := by decide +kernel
theorem dX4_arrival_14 : decode cX4_arrival 14 = .ok (.iaload, 1) := by decide +kernel
theorem dX4_arrival_15 : decode cX4_arrival 15 = .ok (.ireturn, 1) := by decide +kernel
theorem dX4_arrival_16 : decode cX4_arrival 16 = .ok (.aload_n 0, 1) := by decide +kernel
theorem dX4_arrival_17 : decode cX4_arrival 17 = .ok (.getfield 43, 3) := by decide +kernel
theorem dX4_arrival_20 : decode cX4_arrival 20 = .ok (.iload_n 2, 1) := by decide +kernel
theorem dX4_arrival_21 : decode cX4_arrival 21 = .ok (.iaload, 1) := by decide +kernel
theorem dX4_arrival_22 : decode cX4_arrival 22 = .ok (.sipush 1000, 3) := by decide +kernel
theorem dX4_arrival_25 : decode cX4_arrival 25 = .ok (.if_icmp .lt 7, 3) := by decide +kernel
theorem dX4_arrival_28 : decode cX4_arrival 28 = .ok (.sipush 1000, 3) := by decide +kernel
theorem dX4_arrival_31 : decode cX4_arrival 31 = .ok (.ireturn, 1) := by decide +kernel
theorem dX4_arrival_32 : decode cX4_arrival 32 = .ok (.sipush 1000, 3) := by decide +kernel
theorem dX4_arrival_35 : decode cX4_arrival 35 = .ok (.istore 4, 2) := by decide +kernel
theorem dX4_arrival_37 : decode cX4_arrival 37 = .ok (.iconst 0, 1) := by decide +kernel
theorem dX4_arrival_38 : decode cX4_arrival 38 = .ok (.istore 5, 2) := by decide +kernel
theorem dX4_arrival_40 : decode cX4_arrival 40 = .ok (.iload 5, 2) := by decide +kernel
theorem dX4_arrival_42 : decode cX4_arrival 42 = .ok (.aload_n 0, 1) := by decide +kernel
theorem dX4_arrival_43 : decode cX4_arrival 43 = .ok (.getfield 53, 3) := by decide +kernel
theorem dX4_arrival_46 : decode cX4_arrival 46 = .ok (.if_icmp .ge 60, 3) := by decide +kernel
theorem dX4_arrival_49 : decode cX4_arrival 49 = .ok (.iload_n 2, 1) := by decide +kernel
theorem dX4_arrival_50 : decode cX4_arrival 50 = .ok (.iload 5, 2) := by decide +kernel
theorem dX4_arrival_52 : decode cX4_arrival 52 = .ok (.ishr, 1) := by decide +kernel
theorem dX4_arrival_53 : decode cX4_arrival 53 = .ok (.iconst 1, 1) := by decide +kernel
theorem dX4_arrival_54 : decode cX4_arrival 54 = .ok (.iand, 1) := by decide +kernel
theorem dX4_arrival_55 : decode cX4_arrival 55 = .ok (.iconst 1, 1) := by decide +kernel
theorem dX4_arrival_56 : decode cX4_arrival 56 = .ok (.if_icmp .ne 44, 3) := by decide +kernel
theorem dX4_arrival_59 : decode cX4_arrival 59 = .ok (.aload_n 0, 1) := by decide +kernel
theorem dX4_arrival_60 : decode cX4_arrival 60 = .ok (.getfield 40, 3) := by decide +kernel
theorem dX4_arrival_63 : decode cX4_arrival 63 = .ok (.iload_n 2, 1) := by decide +kernel
theorem dX4_arrival_64 : decode cX4_arrival 64 = .ok (.bipush 10, 2) := by decide +kernel
theorem dX4_arrival_66 : decode cX4_arrival 66 = .ok (.imul, 1) := by decide +kernel
theorem dX4_arrival_67 : decode cX4_arrival 67 = .ok (.iload 5, 2) := by decide +kernel
theorem dX4_arrival_69 : decode cX4_arrival 69 = .ok (.iadd, 1) := by decide +kernel
theorem dX4_arrival_70 : decode cX4_arrival 70 = .ok (.iaload, 1) := by decide +kernel
theorem dX4_arrival_71 : decode cX4_arrival 71 = .ok (.aload_n 0, 1) := by decide +kernel
theorem dX4_arrival_72 : decode cX4_arrival 72 = .ok (.getfield 37, 3) := by decide +kernel
theorem dX4_arrival_75 : decode cX4_arrival 75 = .ok (.aload_n 0, 1) := by decide +kernel
theorem dX4_arrival_76 : decode cX4_arrival 76 = .ok (.getfield 22, 3) := by decide +kernel
theorem dX4_arrival_79 : decode cX4_arrival 79 = .ok (.iload 5, 2) := by decide +kernel
theorem dX4_arrival_81 : decode cX4_arrival 81 = .ok (.iaload, 1) := by decide +kernel
theorem dX4_arrival_82 : decode cX4_arrival 82 = .ok (.bipush 16, 2) := by decide +kernel
theorem dX4_arrival_84 : decode cX4_arrival 84 = .ok (.imul, 1) := by decide +kernel
theorem dX4_arrival_85 : decode cX4_arrival 85 = .ok (.iload_n 3, 1) := by decide +kernel
theorem dX4_arrival_86 : decode cX4_arrival 86 = .ok (.iadd, 1) := by decide +kernel
theorem dX4_arrival_87 : decode cX4_arrival 87 = .ok (.iaload, 1) := by decide +kernel
theorem dX4_arrival_88 : decode cX4_arrival 88 = .ok (.iadd, 1) := by decide +kernel
theorem dX4_arrival_89 : decode cX4_arrival 89 = .ok (.istore 6, 2) := by decide +kernel
theorem dX4_arrival_91 : decode cX4_arrival 91 = .ok (.iload 4, 2) := by decide +kernel
theorem dX4_arrival_93 : decode cX4_arrival 93 = .ok (.iload 6, 2) := by decide +kernel
theorem dX4_arrival_95 : decode cX4_arrival 95 = .ok (.invokestatic 136, 3) := by decide +kernel
theorem dX4_arrival_98 : decode cX4_arrival 98 = .ok (.istore 4, 2) := by decide +kernel
theorem dX4_arrival_100 : decode cX4_arrival 100 = .ok (.iinc 5 1, 3) := by decide +kernel
theorem dX4_arrival_103 : decode cX4_arrival 103 = .ok (.goto (-63), 3) := by decide +kernel
theorem dX4_arrival_106 : decode cX4_arrival 106 = .ok (.iload 4, 2) := by decide +kernel
theorem dX4_arrival_108 : decode cX4_arrival 108 = .ok (.ireturn, 1) := by decide +kernel
theorem dX4_bestSet_0 : decode cX4_bestSet 0 = .ok (.aload_n 0, 1) := by decide +kernel
theorem dX4_bestSet_1 : decode cX4_bestSet 1 = .ok (.iconst 0, 1) := by decide +kernel
theorem dX4_bestSet_2 : decode cX4_bestSet 2 = .ok (.putfield 139, 3) := by decide +kernel
theorem dX4_bestSet_5 : decode cX4_bestSet 5 = .ok (.aload_n 0, 1) := by decide +kernel
theorem dX4_bestSet_6 : decode cX4_bestSet 6 = .ok (.iconst 0, 1) := by decide +kernel
theorem dX4_bestSet_7 : decode cX4_bestSet 7 = .ok (.putfield 92, 3) := by decide +kernel
theorem dX4_bestSet_10 : decode cX4_bestSet 10 = .ok (.iconst 0, 1) := by decide +kernel
theorem dX4_bestSet_11 : decode cX4_bestSet 11 = .ok (.istore_n 3, 1) := by decide +kernel
theorem dX4_bestSet_12 : decode cX4_bestSet 12 = .ok (.iconst 1, 1) := by decide +kernel
theorem dX4_bestSet_13 : decode cX4_bestSet 13 = .ok (.aload_n 0, 1) := by decide +kernel
theorem dX4_bestSet_14 : decode cX4_bestSet 14 = .ok (.getfield 53, 3) := by decide +kernel
theorem dX4_bestSet_17 : decode cX4_bestSet 17 = .ok (.ishl, 1) := by decide +kernel
theorem dX4_bestSet_18 : decode cX4_bestSet 18 = .ok (.istore 4, 2) := by decide +kernel
theorem dX4_bestSet_20 : decode cX4_bestSet 20 = .ok (.aload_n 0, 1) := by decide +kernel
theorem dX4_bestSet_21 : decode cX4_bestSet 21 = .ok (.getfield 46, 3) := by decide +kernel
theorem dX4_bestSet_24 : decode cX4_bestSet 24 = .ok (.iconst 0, 1) := by decide +kernel
theorem dX4_bestSet_25 : decode cX4_bestSet 25 = .ok (.iconst 0, 1) := by decide +kernel
theorem dX4_bestSet_26 : decode cX4_bestSet 26 = .ok (.iastore, 1) := by decide +kernel
theorem dX4_bestSet_27 : decode cX4_bestSet 27 = .ok (.iconst 1, 1) := by decide +kernel
theorem dX4_bestSet_28 : decode cX4_bestSet 28 = .ok (.istore 5, 2) := by decide +kernel
theorem dX4_bestSet_30 : decode cX4_bestSet 30 = .ok (.iload 5, 2) := by decide +kernel
theorem dX4_bestSet_32 : decode cX4_bestSet 32 = .ok (.iload 4, 2) := by decide +kernel
theorem dX4_bestSet_34 : decode cX4_bestSet 34 = .ok (.if_icmp .ge 146, 3) := by decide +kernel
theorem dX4_bestSet_37 : decode cX4_bestSet 37 = .ok (.iload 5, 2) := by decide +kernel
theorem dX4_bestSet_39 : decode cX4_bestSet 39 = .ok (.invokestatic 142, 3) := by decide +kernel
