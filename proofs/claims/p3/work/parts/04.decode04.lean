theorem dX3_among_29 : decode cX3_among 29 = .ok (.iload 4, 2) := by decide +kernel
theorem dX3_among_31 : decode cX3_among 31 = .ok (.iload 5, 2) := by decide +kernel
theorem dX3_among_33 : decode cX3_among 33 = .ok (.iadd, 1) := by decide +kernel
theorem dX3_among_34 : decode cX3_among 34 = .ok (.iload_n 2, 1) := by decide +kernel
theorem dX3_among_35 : decode cX3_among 35 = .ok (.if_icmp .ge 47, 3) := by decide +kernel
theorem dX3_among_38 : decode cX3_among 38 = .ok (.aload_n 0, 1) := by decide +kernel
theorem dX3_among_39 : decode cX3_among 39 = .ok (.getfield 179, 3) := by decide +kernel
theorem dX3_among_42 : decode cX3_among 42 = .ok (.iload 5, 2) := by decide +kernel
theorem dX3_among_44 : decode cX3_among 44 = .ok (.iadd, 1) := by decide +kernel
theorem dX3_among_45 : decode cX3_among 45 = .ok (.aload_n 0, 1) := by decide +kernel
theorem dX3_among_46 : decode cX3_among 46 = .ok (.getfield 42, 3) := by decide +kernel
theorem dX3_among_49 : decode cX3_among 49 = .ok (.if_icmp .ge 33, 3) := by decide +kernel
theorem dX3_among_52 : decode cX3_among 52 = .ok (.aload_n 1, 1) := by decide +kernel
theorem dX3_among_53 : decode cX3_among 53 = .ok (.iload 4, 2) := by decide +kernel
theorem dX3_among_55 : decode cX3_among 55 = .ok (.iload 5, 2) := by decide +kernel
theorem dX3_among_57 : decode cX3_among 57 = .ok (.iadd, 1) := by decide +kernel
theorem dX3_among_58 : decode cX3_among 58 = .ok (.invokevirtual 195, 3) := by decide +kernel
theorem dX3_among_61 : decode cX3_among 61 = .ok (.aload_n 0, 1) := by decide +kernel
theorem dX3_among_62 : decode cX3_among 62 = .ok (.getfield 29, 3) := by decide +kernel
theorem dX3_among_65 : decode cX3_among 65 = .ok (.aload_n 0, 1) := by decide +kernel
theorem dX3_among_66 : decode cX3_among 66 = .ok (.getfield 179, 3) := by decide +kernel
theorem dX3_among_69 : decode cX3_among 69 = .ok (.iload 5, 2) := by decide +kernel
theorem dX3_among_71 : decode cX3_among 71 = .ok (.iadd, 1) := by decide +kernel
theorem dX3_among_72 : decode cX3_among 72 = .ok (.baload, 1) := by decide +kernel
theorem dX3_among_73 : decode cX3_among 73 = .ok (.if_icmp .ne 9, 3) := by decide +kernel
theorem dX3_among_76 : decode cX3_among 76 = .ok (.iinc 5 1, 3) := by decide +kernel
theorem dX3_among_79 : decode cX3_among 79 = .ok (.goto (-50), 3) := by decide +kernel
theorem dX3_among_82 : decode cX3_among 82 = .ok (.iload 4, 2) := by decide +kernel
theorem dX3_among_84 : decode cX3_among 84 = .ok (.iload 5, 2) := by decide +kernel
theorem dX3_among_86 : decode cX3_among 86 = .ok (.iadd, 1) := by decide +kernel
theorem dX3_among_87 : decode cX3_among 87 = .ok (.istore 6, 2) := by decide +kernel
theorem dX3_among_89 : decode cX3_among 89 = .ok (.aload_n 0, 1) := by decide +kernel
theorem dX3_among_90 : decode cX3_among 90 = .ok (.getfield 179, 3) := by decide +kernel
theorem dX3_among_93 : decode cX3_among 93 = .ok (.iload 5, 2) := by decide +kernel
theorem dX3_among_95 : decode cX3_among 95 = .ok (.iadd, 1) := by decide +kernel
theorem dX3_among_96 : decode cX3_among 96 = .ok (.aload_n 0, 1) := by decide +kernel
theorem dX3_among_97 : decode cX3_among 97 = .ok (.getfield 42, 3) := by decide +kernel
theorem dX3_among_100 : decode cX3_among 100 = .ok (.if_icmp .ne 22, 3) := by decide +kernel
theorem dX3_among_103 : decode cX3_among 103 = .ok (.iload 6, 2) := by decide +kernel
theorem dX3_among_105 : decode cX3_among 105 = .ok (.iload_n 2, 1) := by decide +kernel
theorem dX3_among_106 : decode cX3_among 106 = .ok (.if_icmp .ge 14, 3) := by decide +kernel
theorem dX3_among_109 : decode cX3_among 109 = .ok (.aload_n 1, 1) := by decide +kernel
theorem dX3_among_110 : decode cX3_among 110 = .ok (.iload 6, 2) := by decide +kernel
theorem dX3_among_112 : decode cX3_among 112 = .ok (.invokevirtual 195, 3) := by decide +kernel
theorem dX3_among_115 : decode cX3_among 115 = .ok (.bipush 32, 2) := by decide +kernel
theorem dX3_among_117 : decode cX3_among 117 = .ok (.if_icmp .ne 5, 3) := by decide +kernel
theorem dX3_among_120 : decode cX3_among 120 = .ok (.iload_n 3, 1) := by decide +kernel
theorem dX3_among_121 : decode cX3_among 121 = .ok (.ireturn, 1) := by decide +kernel
theorem dX3_among_122 : decode cX3_among 122 = .ok (.iload 6, 2) := by decide +kernel
theorem dX3_among_124 : decode cX3_among 124 = .ok (.iload_n 2, 1) := by decide +kernel
theorem dX3_among_125 : decode cX3_among 125 = .ok (.if_icmp .ge 20, 3) := by decide +kernel
theorem dX3_among_128 : decode cX3_among 128 = .ok (.aload_n 1, 1) := by decide +kernel
theorem dX3_among_129 : decode cX3_among 129 = .ok (.iload 6, 2) := by decide +kernel
theorem dX3_among_131 : decode cX3_among 131 = .ok (.invokevirtual 195, 3) := by decide +kernel
theorem dX3_among_134 : decode cX3_among 134 = .ok (.bipush 32, 2) := by decide +kernel
theorem dX3_among_136 : decode cX3_among 136 = .ok (.if_icmp .eq 9, 3) := by decide +kernel
theorem dX3_among_139 : decode cX3_among 139 = .ok (.iinc 6 1, 3) := by decide +kernel
theorem dX3_among_142 : decode cX3_among 142 = .ok (.goto (-20), 3) := by decide +kernel
theorem dX3_among_145 : decode cX3_among 145 = .ok (.iload 6, 2) := by decide +kernel
theorem dX3_among_147 : decode cX3_among 147 = .ok (.iconst 1, 1) := by decide +kernel
theorem dX3_among_148 : decode cX3_among 148 = .ok (.iadd, 1) := by decide +kernel
theorem dX3_among_149 : decode cX3_among 149 = .ok (.istore 4, 2) := by decide +kernel
theorem dX3_among_151 : decode cX3_among 151 = .ok (.iinc 3 1, 3) := by decide +kernel
theorem dX3_among_154 : decode cX3_among 154 = .ok (.goto (-134), 3) := by decide +kernel
theorem dX3_among_157 : decode cX3_among 157 = .ok (.iconst (-1), 1) := by decide +kernel
theorem dX3_among_158 : decode cX3_among 158 = .ok (.ireturn, 1) := by decide +kernel
theorem dX4_init_0 : decode cX4_init 0 = .ok (.aload_n 0, 1) := by decide +kernel
theorem dX4_init_1 : decode cX4_init 1 = .ok (.invokespecial 5, 3) := by decide +kernel
theorem dX4_init_4 : decode cX4_init 4 = .ok (.aload_n 0, 1) := by decide +kernel
theorem dX4_init_5 : decode cX4_init 5 = .ok (.bipush 10, 2) := by decide +kernel
theorem dX4_init_7 : decode cX4_init 7 = .ok (.newarray .int, 2) := by decide +kernel
theorem dX4_init_9 : decode cX4_init 9 = .ok (.putfield 11, 3) := by decide +kernel
theorem dX4_init_12 : decode cX4_init 12 = .ok (.aload_n 0, 1) := by decide +kernel
theorem dX4_init_13 : decode cX4_init 13 = .ok (.iconst (-1), 1) := by decide +kernel
theorem dX4_init_14 : decode cX4_init 14 = .ok (.putfield 15, 3) := by decide +kernel
theorem dX4_init_17 : decode cX4_init 17 = .ok (.aload_n 0, 1) := by decide +kernel
theorem dX4_init_18 : decode cX4_init 18 = .ok (.iconst (-1), 1) := by decide +kernel
theorem dX4_init_19 : decode cX4_init 19 = .ok (.putfield 19, 3) := by decide +kernel
theorem dX4_init_22 : decode cX4_init 22 = .ok (.aload_n 0, 1) := by decide +kernel
theorem dX4_init_23 : decode cX4_init 23 = .ok (.bipush 10, 2) := by decide +kernel
theorem dX4_init_25 : decode cX4_init 25 = .ok (.newarray .int, 2) := by decide +kernel
theorem dX4_init_27 : decode cX4_init 27 = .ok (.putfield 22, 3) := by decide +kernel
theorem dX4_init_30 : decode cX4_init 30 = .ok (.aload_n 0, 1) := by decide +kernel
theorem dX4_init_31 : decode cX4_init 31 = .ok (.bipush 10, 2) := by decide +kernel
theorem dX4_init_33 : decode cX4_init 33 = .ok (.newarray .int, 2) := by decide +kernel
theorem dX4_init_35 : decode cX4_init 35 = .ok (.putfield 25, 3) := by decide +kernel
theorem dX4_init_38 : decode cX4_init 38 = .ok (.aload_n 0, 1) := by decide +kernel
theorem dX4_init_39 : decode cX4_init 39 = .ok (.bipush 16, 2) := by decide +kernel
theorem dX4_init_41 : decode cX4_init 41 = .ok (.newarray .int, 2) := by decide +kernel
theorem dX4_init_43 : decode cX4_init 43 = .ok (.putfield 28, 3) := by decide +kernel
theorem dX4_init_46 : decode cX4_init 46 = .ok (.aload_n 0, 1) := by decide +kernel
theorem dX4_init_47 : decode cX4_init 47 = .ok (.bipush 16, 2) := by decide +kernel
theorem dX4_init_49 : decode cX4_init 49 = .ok (.newarray .int, 2) := by decide +kernel
theorem dX4_init_51 : decode cX4_init 51 = .ok (.putfield 31, 3) := by decide +kernel
theorem dX4_init_54 : decode cX4_init 54 = .ok (.aload_n 0, 1) := by decide +kernel
theorem dX4_init_55 : decode cX4_init 55 = .ok (.bipush 16, 2) := by decide +kernel
theorem dX4_init_57 : decode cX4_init 57 = .ok (.newarray .int, 2) := by decide +kernel
theorem dX4_init_59 : decode cX4_init 59 = .ok (.putfield 34, 3) := by decide +kernel
theorem dX4_init_62 : decode cX4_init 62 = .ok (.aload_n 0, 1) := by decide +kernel
theorem dX4_init_63 : decode cX4_init 63 = .ok (.sipush 256, 3) := by decide +kernel
theorem dX4_init_66 : decode cX4_init 66 = .ok (.newarray .int, 2) := by decide +kernel
theorem dX4_init_68 : decode cX4_init 68 = .ok (.putfield 37, 3) := by decide +kernel
theorem dX4_init_71 : decode cX4_init 71 = .ok (.aload_n 0, 1) := by decide +kernel
theorem dX4_init_72 : decode cX4_init 72 = .ok (.sipush 10240, 3) := by decide +kernel
theorem dX4_init_75 : decode cX4_init 75 = .ok (.newarray .int, 2) := by decide +kernel
theorem dX4_init_77 : decode cX4_init 77 = .ok (.putfield 40, 3) := by decide +kernel
theorem dX4_init_80 : decode cX4_init 80 = .ok (.aload_n 0, 1) := by decide +kernel
theorem dX4_init_81 : decode cX4_init 81 = .ok (.sipush 1024, 3) := by decide +kernel
theorem dX4_init_84 : decode cX4_init 84 = .ok (.newarray .int, 2) := by decide +kernel
theorem dX4_init_86 : decode cX4_init 86 = .ok (.putfield 43, 3) := by decide +kernel
theorem dX4_init_89 : decode cX4_init 89 = .ok (.aload_n 0, 1) := by decide +kernel
theorem dX4_init_90 : decode cX4_init 90 = .ok (.sipush 1024, 3) := by decide +kernel
theorem dX4_init_93 : decode cX4_init 93 = .ok (.newarray .int, 2) := by decide +kernel
theorem dX4_init_95 : decode cX4_init 95 = .ok (.putfield 46, 3) := by decide +kernel
theorem dX4_init_98 : decode cX4_init 98 = .ok (.return_, 1) := by decide +kernel
theorem dX4_plan_0 : decode cX4_plan 0 = .ok (.aload_n 0, 1) := by decide +kernel
theorem dX4_plan_1 : decode cX4_plan 1 = .ok (.getfield 49, 3) := by decide +kernel
theorem dX4_plan_4 : decode cX4_plan 4 = .ok (.ifCond .eq 23, 3) := by decide +kernel
theorem dX4_plan_7 : decode cX4_plan 7 = .ok (.aload_n 0, 1) := by decide +kernel
theorem dX4_plan_8 : decode cX4_plan 8 = .ok (.getfield 15, 3) := by decide +kernel
theorem dX4_plan_11 : decode cX4_plan 11 = .ok (.iload_n 2, 1) := by decide +kernel
theorem dX4_plan_12 : decode cX4_plan 12 = .ok (.if_icmp .ne 15, 3) := by decide +kernel
theorem dX4_plan_15 : decode cX4_plan 15 = .ok (.aload_n 0, 1) := by decide +kernel
theorem dX4_plan_16 : decode cX4_plan 16 = .ok (.getfield 19, 3) := by decide +kernel
theorem dX4_plan_19 : decode cX4_plan 19 = .ok (.iload_n 3, 1) := by decide +kernel
theorem dX4_plan_20 : decode cX4_plan 20 = .ok (.bipush 7, 2) := by decide +kernel
theorem dX4_plan_22 : decode cX4_plan 22 = .ok (.irem, 1) := by decide +kernel
theorem dX4_plan_23 : decode cX4_plan 23 = .ok (.if_icmp .ne 4, 3) := by decide +kernel
theorem dX4_plan_26 : decode cX4_plan 26 = .ok (.return_, 1) := by decide +kernel
theorem dX4_plan_27 : decode cX4_plan 27 = .ok (.aload_n 0, 1) := by decide +kernel
theorem dX4_plan_28 : decode cX4_plan 28 = .ok (.iconst 1, 1) := by decide +kernel
theorem dX4_plan_29 : decode cX4_plan 29 = .ok (.putfield 49, 3) := by decide +kernel
theorem dX4_plan_32 : decode cX4_plan 32 = .ok (.aload_n 0, 1) := by decide +kernel
theorem dX4_plan_33 : decode cX4_plan 33 = .ok (.iload_n 2, 1) := by decide +kernel
theorem dX4_plan_34 : decode cX4_plan 34 = .ok (.putfield 15, 3) := by decide +kernel
theorem dX4_plan_37 : decode cX4_plan 37 = .ok (.aload_n 0, 1) := by decide +kernel
theorem dX4_plan_38 : decode cX4_plan 38 = .ok (.iload_n 3, 1) := by decide +kernel
theorem dX4_plan_39 : decode cX4_plan 39 = .ok (.bipush 7, 2) := by decide +kernel
theorem dX4_plan_41 : decode cX4_plan 41 = .ok (.irem, 1) := by decide +kernel
theorem dX4_plan_42 : decode cX4_plan 42 = .ok (.putfield 19, 3) := by decide +kernel
theorem dX4_plan_45 : decode cX4_plan 45 = .ok (.aload_n 0, 1) := by decide +kernel
theorem dX4_plan_46 : decode cX4_plan 46 = .ok (.iconst 0, 1) := by decide +kernel
theorem dX4_plan_47 : decode cX4_plan 47 = .ok (.putfield 53, 3) := by decide +kernel
theorem dX4_plan_50 : decode cX4_plan 50 = .ok (.iconst 0, 1) := by decide +kernel
theorem dX4_plan_51 : decode cX4_plan 51 = .ok (.istore 4, 2) := by decide +kernel
theorem dX4_plan_53 : decode cX4_plan 53 = .ok (.iload 4, 2) := by decide +kernel
theorem dX4_plan_55 : decode cX4_plan 55 = .ok (.aload_n 1, 1) := by decide +kernel
theorem dX4_plan_56 : decode cX4_plan 56 = .ok (.getfield 56, 3) := by decide +kernel
theorem dX4_plan_59 : decode cX4_plan 59 = .ok (.getfield 62, 3) := by decide +kernel
theorem dX4_plan_62 : decode cX4_plan 62 = .ok (.if_icmp .ge 52, 3) := by decide +kernel
theorem dX4_plan_65 : decode cX4_plan 65 = .ok (.aload_n 0, 1) := by decide +kernel
theorem dX4_plan_66 : decode cX4_plan 66 = .ok (.getfield 53, 3) := by decide +kernel
theorem dX4_plan_69 : decode cX4_plan 69 = .ok (.bipush 10, 2) := by decide +kernel
theorem dX4_plan_71 : decode cX4_plan 71 = .ok (.if_icmp .ge 43, 3) := by decide +kernel
theorem dX4_plan_74 : decode cX4_plan 74 = .ok (.aload_n 1, 1) := by decide +kernel
theorem dX4_plan_75 : decode cX4_plan 75 = .ok (.getfield 67, 3) := by decide +kernel
theorem dX4_plan_78 : decode cX4_plan 78 = .ok (.iload_n 2, 1) := by decide +kernel
theorem dX4_plan_79 : decode cX4_plan 79 = .ok (.iload 4, 2) := by decide +kernel
theorem dX4_plan_81 : decode cX4_plan 81 = .ok (.invokevirtual 71, 3) := by decide +kernel
theorem dX4_plan_84 : decode cX4_plan 84 = .ok (.ifCond .eq 24, 3) := by decide +kernel
theorem dX4_plan_87 : decode cX4_plan 87 = .ok (.aload_n 0, 1) := by decide +kernel
theorem dX4_plan_88 : decode cX4_plan 88 = .ok (.getfield 22, 3) := by decide +kernel
theorem dX4_plan_91 : decode cX4_plan 91 = .ok (.aload_n 0, 1) := by decide +kernel
theorem dX4_plan_92 : decode cX4_plan 92 = .ok (.getfield 53, 3) := by decide +kernel
theorem dX4_plan_95 : decode cX4_plan 95 = .ok (.iload 4, 2) := by decide +kernel
theorem dX4_plan_97 : decode cX4_plan 97 = .ok (.iastore, 1) := by decide +kernel
theorem dX4_plan_98 : decode cX4_plan 98 = .ok (.aload_n 0, 1) := by decide +kernel
theorem dX4_plan_99 : decode cX4_plan 99 = .ok (.dup, 1) := by decide +kernel
theorem dX4_plan_100 : decode cX4_plan 100 = .ok (.getfield 53, 3) := by decide +kernel
theorem dX4_plan_103 : decode cX4_plan 103 = .ok (.iconst 1, 1) := by decide +kernel
theorem dX4_plan_104 : decode cX4_plan 104 = .ok (.iadd, 1) := by decide +kernel
theorem dX4_plan_105 : decode cX4_plan 105 = .ok (.putfield 53, 3) := by decide +kernel
theorem dX4_plan_108 : decode cX4_plan 108 = .ok (.iinc 4 1, 3) := by decide +kernel
theorem dX4_plan_111 : decode cX4_plan 111 = .ok (.goto (-58), 3) := by decide +kernel
theorem dX4_plan_114 : decode cX4_plan 114 = .ok (.aload_n 0, 1) := by decide +kernel
theorem dX4_plan_115 : decode cX4_plan 115 = .ok (.aload_n 1, 1) := by decide +kernel
theorem dX4_plan_116 : decode cX4_plan 116 = .ok (.iload_n 2, 1) := by decide +kernel
theorem dX4_plan_117 : decode cX4_plan 117 = .ok (.invokevirtual 77, 3) := by decide +kernel
theorem dX4_plan_120 : decode cX4_plan 120 = .ok (.aload_n 0, 1) := by decide +kernel
theorem dX4_plan_121 : decode cX4_plan 121 = .ok (.iload_n 2, 1) := by decide +kernel
theorem dX4_plan_122 : decode cX4_plan 122 = .ok (.aload_n 0, 1) := by decide +kernel
theorem dX4_plan_123 : decode cX4_plan 123 = .ok (.aload_n 1, 1) := by decide +kernel
theorem dX4_plan_124 : decode cX4_plan 124 = .ok (.iload_n 3, 1) := by decide +kernel
theorem dX4_plan_125 : decode cX4_plan 125 = .ok (.invokevirtual 81, 3) := by decide +kernel
theorem dX4_plan_128 : decode cX4_plan 128 = .ok (.invokevirtual 85, 3) := by decide +kernel
theorem dX4_plan_131 : decode cX4_plan 131 = .ok (.aload_n 0, 1) := by decide +kernel
theorem dX4_plan_132 : decode cX4_plan 132 = .ok (.aload_n 1, 1) := by decide +kernel
theorem dX4_plan_133 : decode cX4_plan 133 = .ok (.iload_n 2, 1) := by decide +kernel
theorem dX4_plan_134 : decode cX4_plan 134 = .ok (.invokevirtual 89, 3) := by decide +kernel
theorem dX4_plan_137 : decode cX4_plan 137 = .ok (.istore 4, 2) := by decide +kernel
theorem dX4_plan_139 : decode cX4_plan 139 = .ok (.aload_n 0, 1) := by decide +kernel
theorem dX4_plan_140 : decode cX4_plan 140 = .ok (.iload 4, 2) := by decide +kernel
theorem dX4_plan_142 : decode cX4_plan 142 = .ok (.aload_n 0, 1) := by decide +kernel
theorem dX4_plan_143 : decode cX4_plan 143 = .ok (.getfield 92, 3) := by decide +kernel
theorem dX4_plan_146 : decode cX4_plan 146 = .ok (.invokevirtual 95, 3) := by decide +kernel
theorem dX4_plan_149 : decode cX4_plan 149 = .ok (.aload_n 0, 1) := by decide +kernel
theorem dX4_plan_150 : decode cX4_plan 150 = .ok (.iload_n 2, 1) := by decide +kernel
theorem dX4_plan_151 : decode cX4_plan 151 = .ok (.iload 4, 2) := by decide +kernel
theorem dX4_plan_153 : decode cX4_plan 153 = .ok (.invokevirtual 98, 3) := by decide +kernel
theorem dX4_plan_156 : decode cX4_plan 156 = .ok (.return_, 1) := by decide +kernel
theorem dX4_lookAtSpots_0 : decode cX4_lookAtSpots 0 = .ok (.iconst 0, 1) := by decide +kernel
theorem dX4_lookAtSpots_1 : decode cX4_lookAtSpots 1 = .ok (.istore_n 3, 1) := by decide +kernel
theorem dX4_lookAtSpots_2 : decode cX4_lookAtSpots 2 = .ok (.iload_n 3, 1) := by decide +kernel
theorem dX4_lookAtSpots_3 : decode cX4_lookAtSpots 3 = .ok (.aload_n 0, 1) := by decide +kernel
theorem dX4_lookAtSpots_4 : decode cX4_lookAtSpots 4 = .ok (.getfield 53, 3) := by decide +kernel
theorem dX4_lookAtSpots_7 : decode cX4_lookAtSpots 7 = .ok (.if_icmp .ge 99, 3) := by decide +kernel
theorem dX4_lookAtSpots_10 : decode cX4_lookAtSpots 10 = .ok (.aload_n 0, 1) := by decide +kernel
theorem dX4_lookAtSpots_11 : decode cX4_lookAtSpots 11 = .ok (.getfield 22, 3) := by decide +kernel
theorem dX4_lookAtSpots_14 : decode cX4_lookAtSpots 14 = .ok (.iload_n 3, 1) := by decide +kernel
theorem dX4_lookAtSpots_15 : decode cX4_lookAtSpots 15 = .ok (.iaload, 1) := by decide +kernel
theorem dX4_lookAtSpots_16 : decode cX4_lookAtSpots 16 = .ok (.istore 4, 2) := by decide +kernel
theorem dX4_lookAtSpots_18 : decode cX4_lookAtSpots 18 = .ok (.aload_n 0, 1) := by decide +kernel
theorem dX4_lookAtSpots_19 : decode cX4_lookAtSpots 19 = .ok (.aload_n 1, 1) := by decide +kernel
theorem dX4_lookAtSpots_20 : decode cX4_lookAtSpots 20 = .ok (.iload_n 2, 1) := by decide +kernel
theorem dX4_lookAtSpots_21 : decode cX4_lookAtSpots 21 = .ok (.iload 4, 2) := by decide +kernel
theorem dX4_lookAtSpots_23 : decode cX4_lookAtSpots 23 = .ok (.invokevirtual 101, 3) := by decide +kernel
theorem dX4_lookAtSpots_26 : decode cX4_lookAtSpots 26 = .ok (.aload_n 0, 1) := by decide +kernel
theorem dX4_lookAtSpots_27 : decode cX4_lookAtSpots 27 = .ok (.getfield 37, 3) := by decide +kernel
theorem dX4_lookAtSpots_30 : decode cX4_lookAtSpots 30 = .ok (.iload_n 2, 1) := by decide +kernel
theorem dX4_lookAtSpots_31 : decode cX4_lookAtSpots 31 = .ok (.bipush 16, 2) := by decide +kernel
theorem dX4_lookAtSpots_33 : decode cX4_lookAtSpots 33 = .ok (.imul, 1) := by decide +kernel
theorem dX4_lookAtSpots_34 : decode cX4_lookAtSpots 34 = .ok (.iload 4, 2) := by decide +kernel
theorem dX4_lookAtSpots_36 : decode cX4_lookAtSpots 36 = .ok (.iadd, 1) := by decide +kernel
theorem dX4_lookAtSpots_37 : decode cX4_lookAtSpots 37 = .ok (.aload_n 1, 1) := by decide +kernel
theorem dX4_lookAtSpots_38 : decode cX4_lookAtSpots 38 = .ok (.getfield 56, 3) := by decide +kernel
theorem dX4_lookAtSpots_41 : decode cX4_lookAtSpots 41 = .ok (.iload_n 2, 1) := by decide +kernel
theorem dX4_lookAtSpots_42 : decode cX4_lookAtSpots 42 = .ok (.iload 4, 2) := by decide +kernel
theorem dX4_lookAtSpots_44 : decode cX4_lookAtSpots 44 = .ok (.invokevirtual 105, 3) := by decide +kernel
theorem dX4_lookAtSpots_47 : decode cX4_lookAtSpots 47 = .ok (.iastore, 1) := by decide +kernel
theorem dX4_lookAtSpots_48 : decode cX4_lookAtSpots 48 = .ok (.iconst 0, 1) := by decide +kernel
theorem dX4_lookAtSpots_49 : decode cX4_lookAtSpots 49 = .ok (.istore 5, 2) := by decide +kernel
theorem dX4_lookAtSpots_51 : decode cX4_lookAtSpots 51 = .ok (.iload 5, 2) := by decide +kernel
theorem dX4_lookAtSpots_53 : decode cX4_lookAtSpots 53 = .ok (.aload_n 0, 1) := by decide +kernel
theorem dX4_lookAtSpots_54 : decode cX4_lookAtSpots 54 = .ok (.getfield 53, 3) := by decide +kernel
theorem dX4_lookAtSpots_57 : decode cX4_lookAtSpots 57 = .ok (.if_icmp .ge 43, 3) := by decide +kernel
theorem dX4_lookAtSpots_60 : decode cX4_lookAtSpots 60 = .ok (.aload_n 0, 1) := by decide +kernel
theorem dX4_lookAtSpots_61 : decode cX4_lookAtSpots 61 = .ok (.getfield 37, 3) := by decide +kernel
theorem dX4_lookAtSpots_64 : decode cX4_lookAtSpots 64 = .ok (.iload 4, 2) := by decide +kernel
theorem dX4_lookAtSpots_66 : decode cX4_lookAtSpots 66 = .ok (.bipush 16, 2) := by decide +kernel
theorem dX4_lookAtSpots_68 : decode cX4_lookAtSpots 68 = .ok (.imul, 1) := by decide +kernel
theorem dX4_lookAtSpots_69 : decode cX4_lookAtSpots 69 = .ok (.aload_n 0, 1) := by decide +kernel
theorem dX4_lookAtSpots_70 : decode cX4_lookAtSpots 70 = .ok (.getfield 22, 3) := by decide +kernel
theorem dX4_lookAtSpots_73 : decode cX4_lookAtSpots 73 = .ok (.iload 5, 2) := by decide +kernel
theorem dX4_lookAtSpots_75 : decode cX4_lookAtSpots 75 = .ok (.iaload, 1) := by decide +kernel
theorem dX4_lookAtSpots_76 : decode cX4_lookAtSpots 76 = .ok (.iadd, 1) := by decide +kernel
theorem dX4_lookAtSpots_77 : decode cX4_lookAtSpots 77 = .ok (.aload_n 1, 1) := by decide +kernel
theorem dX4_lookAtSpots_78 : decode cX4_lookAtSpots 78 = .ok (.getfield 56, 3) := by decide +kernel
theorem dX4_lookAtSpots_81 : decode cX4_lookAtSpots 81 = .ok (.iload 4, 2) := by decide +kernel
theorem dX4_lookAtSpots_83 : decode cX4_lookAtSpots 83 = .ok (.aload_n 0, 1) := by decide +kernel
theorem dX4_lookAtSpots_84 : decode cX4_lookAtSpots 84 = .ok (.getfield 22, 3) := by decide +kernel
theorem dX4_lookAtSpots_87 : decode cX4_lookAtSpots 87 = .ok (.iload 5, 2) := by decide +kernel
theorem dX4_lookAtSpots_89 : decode cX4_lookAtSpots 89 = .ok (.iaload, 1) := by decide +kernel
theorem dX4_lookAtSpots_90 : decode cX4_lookAtSpots 90 = .ok (.invokevirtual 105, 3) := by decide +kernel
theorem dX4_lookAtSpots_93 : decode cX4_lookAtSpots 93 = .ok (.iastore, 1) := by decide +kernel
theorem dX4_lookAtSpots_94 : decode cX4_lookAtSpots 94 = .ok (.iinc 5 1, 3) := by decide +kernel
theorem dX4_lookAtSpots_97 : decode cX4_lookAtSpots 97 = .ok (.goto (-46), 3) := by decide +kernel
theorem dX4_lookAtSpots_100 : decode cX4_lookAtSpots 100 = .ok (.iinc 3 1, 3) := by decide +kernel
theorem dX4_lookAtSpots_103 : decode cX4_lookAtSpots 103 = .ok (.goto (-101), 3) := by decide +kernel
theorem dX4_lookAtSpots_106 : decode cX4_lookAtSpots 106 = .ok (.return_, 1) := by decide +kernel
theorem dX4_lookAt_0 : decode cX4_lookAt 0 = .ok (.aload_n 1, 1) := by decide +kernel
theorem dX4_lookAt_1 : decode cX4_lookAt 1 = .ok (.iload_n 2, 1) := by decide +kernel
theorem dX4_lookAt_2 : decode cX4_lookAt 2 = .ok (.iload_n 3, 1) := by decide +kernel
theorem dX4_lookAt_3 : decode cX4_lookAt 3 = .ok (.invokestatic 108, 3) := by decide +kernel
theorem dX4_lookAt_6 : decode cX4_lookAt 6 = .ok (.istore 4, 2) := by decide +kernel
theorem dX4_lookAt_8 : decode cX4_lookAt 8 = .ok (.aload_n 0, 1) := by decide +kernel
theorem dX4_lookAt_9 : decode cX4_lookAt 9 = .ok (.getfield 28, 3) := by decide +kernel
theorem dX4_lookAt_12 : decode cX4_lookAt 12 = .ok (.iload_n 3, 1) := by decide +kernel
theorem dX4_lookAt_13 : decode cX4_lookAt 13 = .ok (.iload 4, 2) := by decide +kernel
theorem dX4_lookAt_15 : decode cX4_lookAt 15 = .ok (.ifCond .eq 15, 3) := by decide +kernel
theorem dX4_lookAt_18 : decode cX4_lookAt 18 = .ok (.aload_n 1, 1) := by decide +kernel
theorem dX4_lookAt_19 : decode cX4_lookAt 19 = .ok (.getfield 56, 3) := by decide +kernel
theorem dX4_lookAt_22 : decode cX4_lookAt 22 = .ok (.getfield 112, 3) := by decide +kernel
theorem dX4_lookAt_25 : decode cX4_lookAt 25 = .ok (.iload_n 3, 1) := by decide +kernel
theorem dX4_lookAt_26 : decode cX4_lookAt 26 = .ok (.iaload, 1) := by decide +kernel
theorem dX4_lookAt_27 : decode cX4_lookAt 27 = .ok (.goto 4, 3) := by decide +kernel
theorem dX4_lookAt_30 : decode cX4_lookAt 30 = .ok (.iconst 0, 1) := by decide +kernel
theorem dX4_lookAt_31 : decode cX4_lookAt 31 = .ok (.iastore, 1) := by decide +kernel
theorem dX4_lookAt_32 : decode cX4_lookAt 32 = .ok (.aload_n 0, 1) := by decide +kernel
theorem dX4_lookAt_33 : decode cX4_lookAt 33 = .ok (.getfield 31, 3) := by decide +kernel
theorem dX4_lookAt_36 : decode cX4_lookAt 36 = .ok (.iload_n 3, 1) := by decide +kernel
theorem dX4_lookAt_37 : decode cX4_lookAt 37 = .ok (.iload 4, 2) := by decide +kernel
theorem dX4_lookAt_39 : decode cX4_lookAt 39 = .ok (.ifCond .eq 15, 3) := by decide +kernel
theorem dX4_lookAt_42 : decode cX4_lookAt 42 = .ok (.aload_n 1, 1) := by decide +kernel
theorem dX4_lookAt_43 : decode cX4_lookAt 43 = .ok (.getfield 56, 3) := by decide +kernel
theorem dX4_lookAt_46 : decode cX4_lookAt 46 = .ok (.getfield 115, 3) := by decide +kernel
theorem dX4_lookAt_49 : decode cX4_lookAt 49 = .ok (.iload_n 3, 1) := by decide +kernel
theorem dX4_lookAt_50 : decode cX4_lookAt 50 = .ok (.iaload, 1) := by decide +kernel
theorem dX4_lookAt_51 : decode cX4_lookAt 51 = .ok (.goto 6, 3) := by decide +kernel
theorem dX4_lookAt_54 : decode cX4_lookAt 54 = .ok (.sipush 180, 3) := by decide +kernel
theorem dX4_lookAt_57 : decode cX4_lookAt 57 = .ok (.iastore, 1) := by decide +kernel
theorem dX4_lookAt_58 : decode cX4_lookAt 58 = .ok (.aload_n 0, 1) := by decide +kernel
theorem dX4_lookAt_59 : decode cX4_lookAt 59 = .ok (.getfield 34, 3) := by decide +kernel
theorem dX4_lookAt_62 : decode cX4_lookAt 62 = .ok (.iload_n 3, 1) := by decide +kernel
theorem dX4_lookAt_63 : decode cX4_lookAt 63 = .ok (.iload 4, 2) := by decide +kernel
theorem dX4_lookAt_65 : decode cX4_lookAt 65 = .ok (.ifCond .eq 8, 3) := by decide +kernel
theorem dX4_lookAt_68 : decode cX4_lookAt 68 = .ok (.bipush 15, 2) := by decide +kernel
theorem dX4_lookAt_70 : decode cX4_lookAt 70 = .ok (.goto 4, 3) := by decide +kernel
theorem dX4_lookAt_73 : decode cX4_lookAt 73 = .ok (.iconst 0, 1) := by decide +kernel
theorem dX4_lookAt_74 : decode cX4_lookAt 74 = .ok (.iastore, 1) := by decide +kernel
theorem dX4_lookAt_75 : decode cX4_lookAt 75 = .ok (.return_, 1) := by decide +kernel
theorem dX4_isByCall_0 : decode cX4_isByCall 0 = .ok (.aload_n 0, 1) := by decide +kernel
theorem dX4_isByCall_1 : decode cX4_isByCall 1 = .ok (.getfield 67, 3) := by decide +kernel
theorem dX4_isByCall_4 : decode cX4_isByCall 4 = .ok (.iload_n 1, 1) := by decide +kernel
theorem dX4_isByCall_5 : decode cX4_isByCall 5 = .ok (.iload_n 2, 1) := by decide +kernel
theorem dX4_isByCall_6 : decode cX4_isByCall 6 = .ok (.invokevirtual 71, 3) := by decide +kernel
theorem dX4_isByCall_9 : decode cX4_isByCall 9 = .ok (.iconst 2, 1) := by decide +kernel
theorem dX4_isByCall_10 : decode cX4_isByCall 10 = .ok (.ishr, 1) := by decide +kernel
theorem dX4_isByCall_11 : decode cX4_isByCall 11 = .ok (.ifCond .eq 7, 3) := by decide +kernel
theorem dX4_isByCall_14 : decode cX4_isByCall 14 = .ok (.iconst 1, 1) := by decide +kernel
theorem dX4_isByCall_15 : decode cX4_isByCall 15 = .ok (.goto 4, 3) := by decide +kernel
theorem dX4_isByCall_18 : decode cX4_isByCall 18 = .ok (.iconst 0, 1) := by decide +kernel
theorem dX4_isByCall_19 : decode cX4_isByCall 19 = .ok (.ireturn, 1) := by decide +kernel
theorem dX4_isAtHome_0 : decode cX4_isAtHome 0 = .ok (.aload_n 0, 1) := by decide +kernel
theorem dX4_isAtHome_1 : decode cX4_isAtHome 1 = .ok (.iload_n 1, 1) := by decide +kernel
theorem dX4_isAtHome_2 : decode cX4_isAtHome 2 = .ok (.iload_n 2, 1) := by decide +kernel
theorem dX4_isAtHome_3 : decode cX4_isAtHome 3 = .ok (.invokestatic 108, 3) := by decide +kernel
theorem dX4_isAtHome_6 : decode cX4_isAtHome 6 = .ok (.ifCond .eq 19, 3) := by decide +kernel
theorem dX4_isAtHome_9 : decode cX4_isAtHome 9 = .ok (.aload_n 0, 1) := by decide +kernel
theorem dX4_isAtHome_10 : decode cX4_isAtHome 10 = .ok (.getfield 56, 3) := by decide +kernel
theorem dX4_isAtHome_13 : decode cX4_isAtHome 13 = .ok (.getfield 118, 3) := by decide +kernel
theorem dX4_isAtHome_16 : decode cX4_isAtHome 16 = .ok (.iload_n 2, 1) := by decide +kernel
theorem dX4_isAtHome_17 : decode cX4_isAtHome 17 = .ok (.iaload, 1) := by decide +kernel
theorem dX4_isAtHome_18 : decode cX4_isAtHome 18 = .ok (.iload_n 3, 1) := by decide +kernel
theorem dX4_isAtHome_19 : decode cX4_isAtHome 19 = .ok (.bipush 7, 2) := by decide +kernel
theorem dX4_isAtHome_21 : decode cX4_isAtHome 21 = .ok (.irem, 1) := by decide +kernel
theorem dX4_isAtHome_22 : decode cX4_isAtHome 22 = .ok (.if_icmp .ne 7, 3) := by decide +kernel
theorem dX4_isAtHome_25 : decode cX4_isAtHome 25 = .ok (.iconst 1, 1) := by decide +kernel
theorem dX4_isAtHome_26 : decode cX4_isAtHome 26 = .ok (.goto 4, 3) := by decide +kernel
theorem dX4_isAtHome_29 : decode cX4_isAtHome 29 = .ok (.iconst 0, 1) := by decide +kernel
theorem dX4_isAtHome_30 : decode cX4_isAtHome 30 = .ok (.ireturn, 1) := by decide +kernel
theorem dX4_openSpots_0 : decode cX4_openSpots 0 = .ok (.iconst 0, 1) := by decide +kernel
theorem dX4_openSpots_1 : decode cX4_openSpots 1 = .ok (.istore_n 3, 1) := by decide +kernel
theorem dX4_openSpots_2 : decode cX4_openSpots 2 = .ok (.iconst 0, 1) := by decide +kernel
theorem dX4_openSpots_3 : decode cX4_openSpots 3 = .ok (.istore 4, 2) := by decide +kernel
theorem dX4_openSpots_5 : decode cX4_openSpots 5 = .ok (.iload 4, 2) := by decide +kernel
theorem dX4_openSpots_7 : decode cX4_openSpots 7 = .ok (.aload_n 0, 1) := by decide +kernel
theorem dX4_openSpots_8 : decode cX4_openSpots 8 = .ok (.getfield 53, 3) := by decide +kernel
theorem dX4_openSpots_11 : decode cX4_openSpots 11 = .ok (.if_icmp .ge 35, 3) := by decide +kernel
theorem dX4_openSpots_14 : decode cX4_openSpots 14 = .ok (.aload_n 1, 1) := by decide +kernel
theorem dX4_openSpots_15 : decode cX4_openSpots 15 = .ok (.aload_n 0, 1) := by decide +kernel
theorem dX4_openSpots_16 : decode cX4_openSpots 16 = .ok (.getfield 15, 3) := by decide +kernel
theorem dX4_openSpots_19 : decode cX4_openSpots 19 = .ok (.aload_n 0, 1) := by decide +kernel
theorem dX4_openSpots_20 : decode cX4_openSpots 20 = .ok (.getfield 22, 3) := by decide +kernel
theorem dX4_openSpots_23 : decode cX4_openSpots 23 = .ok (.iload 4, 2) := by decide +kernel
theorem dX4_openSpots_25 : decode cX4_openSpots 25 = .ok (.iaload, 1) := by decide +kernel
theorem dX4_openSpots_26 : decode cX4_openSpots 26 = .ok (.iload_n 2, 1) := by decide +kernel
theorem dX4_openSpots_27 : decode cX4_openSpots 27 = .ok (.invokestatic 120, 3) := by decide +kernel
theorem dX4_openSpots_30 : decode cX4_openSpots 30 = .ok (.ifCond .eq 10, 3) := by decide +kernel
theorem dX4_openSpots_33 : decode cX4_openSpots 33 = .ok (.iload_n 3, 1) := by decide +kernel
theorem dX4_openSpots_34 : decode cX4_openSpots 34 = .ok (.iconst 1, 1) := by decide +kernel
theorem dX4_openSpots_35 : decode cX4_openSpots 35 = .ok (.iload 4, 2) := by decide +kernel
theorem dX4_openSpots_37 : decode cX4_openSpots 37 = .ok (.ishl, 1) := by decide +kernel
theorem dX4_openSpots_38 : decode cX4_openSpots 38 = .ok (.ior, 1) := by decide +kernel
theorem dX4_openSpots_39 : decode cX4_openSpots 39 = .ok (.istore_n 3, 1) := by decide +kernel
theorem dX4_openSpots_40 : decode cX4_openSpots 40 = .ok (.iinc 4 1, 3) := by decide +kernel
theorem dX4_openSpots_43 : decode cX4_openSpots 43 = .ok (.goto (-38), 3) := by decide +kernel
theorem dX4_openSpots_46 : decode cX4_openSpots 46 = .ok (.iload_n 3, 1) := by decide +kernel
theorem dX4_openSpots_47 : decode cX4_openSpots 47 = .ok (.ireturn, 1) := by decide +kernel
theorem dX4_seen_0 : decode cX4_seen 0 = .ok (.iload_n 2, 1) := by decide +kernel
theorem dX4_seen_1 : decode cX4_seen 1 = .ok (.aload_n 0, 1) := by decide +kernel
theorem dX4_seen_2 : decode cX4_seen 2 = .ok (.getfield 28, 3) := by decide +kernel
theorem dX4_seen_5 : decode cX4_seen 5 = .ok (.iload_n 1, 1) := by decide +kernel
theorem dX4_seen_6 : decode cX4_seen 6 = .ok (.iaload, 1) := by decide +kernel
theorem dX4_seen_7 : decode cX4_seen 7 = .ok (.invokestatic 124, 3) := by decide +kernel
theorem dX4_seen_10 : decode cX4_seen 10 = .ok (.aload_n 0, 1) := by decide +kernel
theorem dX4_seen_11 : decode cX4_seen 11 = .ok (.getfield 34, 3) := by decide +kernel
theorem dX4_seen_14 : decode cX4_seen 14 = .ok (.iload_n 1, 1) := by decide +kernel
theorem dX4_seen_15 : decode cX4_seen 15 = .ok (.iaload, 1) := by decide +kernel
theorem dX4_seen_16 : decode cX4_seen 16 = .ok (.iadd, 1) := by decide +kernel
theorem dX4_seen_17 : decode cX4_seen 17 = .ok (.istore_n 3, 1) := by decide +kernel
theorem dX4_seen_18 : decode cX4_seen 18 = .ok (.iload_n 3, 1) := by decide +kernel
theorem dX4_seen_19 : decode cX4_seen 19 = .ok (.aload_n 0, 1) := by decide +kernel
theorem dX4_seen_20 : decode cX4_seen 20 = .ok (.getfield 31, 3) := by decide +kernel
theorem dX4_seen_23 : decode cX4_seen 23 = .ok (.iload_n 1, 1) := by decide +kernel
theorem dX4_seen_24 : decode cX4_seen 24 = .ok (.iaload, 1) := by decide +kernel
theorem dX4_seen_25 : decode cX4_seen 25 = .ok (.if_icmp .le 9, 3) := by decide +kernel
theorem dX4_seen_28 : decode cX4_seen 28 = .ok (.sipush 1000, 3) := by decide +kernel
theorem dX4_seen_31 : decode cX4_seen 31 = .ok (.goto 4, 3) := by decide +kernel
theorem dX4_seen_34 : decode cX4_seen 34 = .ok (.iload_n 3, 1) := by decide +kernel
theorem dX4_seen_35 : decode cX4_seen 35 = .ok (.ireturn, 1) := by decide +kernel
theorem dX4_reckonMinutes_0 : decode cX4_reckonMinutes 0 = .ok (.iconst 1, 1) := by decide +kernel
theorem dX4_reckonMinutes_1 : decode cX4_reckonMinutes 1 = .ok (.aload_n 0, 1) := by decide +kernel
theorem dX4_reckonMinutes_2 : decode cX4_reckonMinutes 2 = .ok (.getfield 53, 3) := by decide +kernel
theorem dX4_reckonMinutes_5 : decode cX4_reckonMinutes 5 = .ok (.ishl, 1) := by decide +kernel
theorem dX4_reckonMinutes_6 : decode cX4_reckonMinutes 6 = .ok (.istore_n 3, 1) := by decide +kernel
theorem dX4_reckonMinutes_7 : decode cX4_reckonMinutes 7 = .ok (.aload_n 0, 1) := by decide +kernel
theorem dX4_reckonMinutes_8 : decode cX4_reckonMinutes 8 = .ok (.getfield 43, 3) := by decide +kernel
theorem dX4_reckonMinutes_11 : decode cX4_reckonMinutes 11 = .ok (.iconst 0, 1) := by decide +kernel
theorem dX4_reckonMinutes_12 : decode cX4_reckonMinutes 12 = .ok (.iconst 0, 1) := by decide +kernel
theorem dX4_reckonMinutes_13 : decode cX4_reckonMinutes 13 = .ok (.iastore, 1) := by decide +kernel
theorem dX4_reckonMinutes_14 : decode cX4_reckonMinutes 14 = .ok (.iconst 1, 1) := by decide +kernel
theorem dX4_reckonMinutes_15 : decode cX4_reckonMinutes 15 = .ok (.istore 4, 2) := by decide +kernel
theorem dX4_reckonMinutes_17 : decode cX4_reckonMinutes 17 = .ok (.iload 4, 2) := by decide +kernel
theorem dX4_reckonMinutes_19 : decode cX4_reckonMinutes 19 = .ok (.iload_n 3, 1) := by decide +kernel
theorem dX4_reckonMinutes_20 : decode cX4_reckonMinutes 20 = .ok (.if_icmp .ge 117, 3) := by decide +kernel
theorem dX4_reckonMinutes_23 : decode cX4_reckonMinutes 23 = .ok (.sipush 1000, 3) := by decide +kernel
theorem dX4_reckonMinutes_26 : decode cX4_reckonMinutes 26 = .ok (.istore 5, 2) := by decide +kernel
theorem dX4_reckonMinutes_28 : decode cX4_reckonMinutes 28 = .ok (.iload 4, 2) := by decide +kernel
theorem dX4_reckonMinutes_30 : decode cX4_reckonMinutes 30 = .ok (.iload_n 2, 1) := by decide +kernel
theorem dX4_reckonMinutes_31 : decode cX4_reckonMinutes 31 = .ok (.iconst (-1), 1) := by decide +kernel
