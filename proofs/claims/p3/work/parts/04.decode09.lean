theorem dX6_followCalls_137 : decode cX6_followCalls 137 = .ok (.iload_n 1, 1) := by decide +kernel
theorem dX6_followCalls_138 : decode cX6_followCalls 138 = .ok (.iaload, 1) := by decide +kernel
theorem dX6_followCalls_139 : decode cX6_followCalls 139 = .ok (.ior, 1) := by decide +kernel
theorem dX6_followCalls_140 : decode cX6_followCalls 140 = .ok (.iastore, 1) := by decide +kernel
theorem dX6_followCalls_141 : decode cX6_followCalls 141 = .ok (.iinc 2 1, 3) := by decide +kernel
theorem dX6_followCalls_144 : decode cX6_followCalls 144 = .ok (.goto (-38), 3) := by decide +kernel
theorem dX6_followCalls_147 : decode cX6_followCalls 147 = .ok (.iinc 1 1, 3) := by decide +kernel
theorem dX6_followCalls_150 : decode cX6_followCalls 150 = .ok (.goto (-52), 3) := by decide +kernel
theorem dX6_followCalls_153 : decode cX6_followCalls 153 = .ok (.return_, 1) := by decide +kernel
theorem dX6_ringBits_0 : decode cX6_ringBits 0 = .ok (.aload_n 0, 1) := by decide +kernel
theorem dX6_ringBits_1 : decode cX6_ringBits 1 = .ok (.getfield 43, 3) := by decide +kernel
theorem dX6_ringBits_4 : decode cX6_ringBits 4 = .ok (.iload_n 1, 1) := by decide +kernel
theorem dX6_ringBits_5 : decode cX6_ringBits 5 = .ok (.iaload, 1) := by decide +kernel
theorem dX6_ringBits_6 : decode cX6_ringBits 6 = .ok (.istore_n 2, 1) := by decide +kernel
theorem dX6_ringBits_7 : decode cX6_ringBits 7 = .ok (.iload_n 2, 1) := by decide +kernel
theorem dX6_ringBits_8 : decode cX6_ringBits 8 = .ok (.invokestatic 101, 3) := by decide +kernel
theorem dX6_ringBits_11 : decode cX6_ringBits 11 = .ok (.iconst 2, 1) := by decide +kernel
theorem dX6_ringBits_12 : decode cX6_ringBits 12 = .ok (.if_icmp .ge 5, 3) := by decide +kernel
theorem dX6_ringBits_15 : decode cX6_ringBits 15 = .ok (.iconst 0, 1) := by decide +kernel
theorem dX6_ringBits_16 : decode cX6_ringBits 16 = .ok (.ireturn, 1) := by decide +kernel
theorem dX6_ringBits_17 : decode cX6_ringBits 17 = .ok (.iconst 0, 1) := by decide +kernel
theorem dX6_ringBits_18 : decode cX6_ringBits 18 = .ok (.istore_n 3, 1) := by decide +kernel
theorem dX6_ringBits_19 : decode cX6_ringBits 19 = .ok (.iload_n 3, 1) := by decide +kernel
theorem dX6_ringBits_20 : decode cX6_ringBits 20 = .ok (.bipush 16, 2) := by decide +kernel
theorem dX6_ringBits_22 : decode cX6_ringBits 22 = .ok (.if_icmp .ge 30, 3) := by decide +kernel
theorem dX6_ringBits_25 : decode cX6_ringBits 25 = .ok (.iload_n 2, 1) := by decide +kernel
theorem dX6_ringBits_26 : decode cX6_ringBits 26 = .ok (.iload_n 3, 1) := by decide +kernel
theorem dX6_ringBits_27 : decode cX6_ringBits 27 = .ok (.ishr, 1) := by decide +kernel
theorem dX6_ringBits_28 : decode cX6_ringBits 28 = .ok (.iconst 1, 1) := by decide +kernel
theorem dX6_ringBits_29 : decode cX6_ringBits 29 = .ok (.iand, 1) := by decide +kernel
theorem dX6_ringBits_30 : decode cX6_ringBits 30 = .ok (.iconst 1, 1) := by decide +kernel
theorem dX6_ringBits_31 : decode cX6_ringBits 31 = .ok (.if_icmp .ne 15, 3) := by decide +kernel
theorem dX6_ringBits_34 : decode cX6_ringBits 34 = .ok (.aload_n 0, 1) := by decide +kernel
theorem dX6_ringBits_35 : decode cX6_ringBits 35 = .ok (.getfield 43, 3) := by decide +kernel
theorem dX6_ringBits_38 : decode cX6_ringBits 38 = .ok (.iload_n 3, 1) := by decide +kernel
theorem dX6_ringBits_39 : decode cX6_ringBits 39 = .ok (.iaload, 1) := by decide +kernel
theorem dX6_ringBits_40 : decode cX6_ringBits 40 = .ok (.iload_n 2, 1) := by decide +kernel
theorem dX6_ringBits_41 : decode cX6_ringBits 41 = .ok (.if_icmp .eq 5, 3) := by decide +kernel
theorem dX6_ringBits_44 : decode cX6_ringBits 44 = .ok (.iconst 0, 1) := by decide +kernel
theorem dX6_ringBits_45 : decode cX6_ringBits 45 = .ok (.ireturn, 1) := by decide +kernel
theorem dX6_ringBits_46 : decode cX6_ringBits 46 = .ok (.iinc 3 1, 3) := by decide +kernel
theorem dX6_ringBits_49 : decode cX6_ringBits 49 = .ok (.goto (-30), 3) := by decide +kernel
theorem dX6_ringBits_52 : decode cX6_ringBits 52 = .ok (.iload_n 2, 1) := by decide +kernel
theorem dX6_ringBits_53 : decode cX6_ringBits 53 = .ok (.ireturn, 1) := by decide +kernel
theorem dX7_init_0 : decode cX7_init 0 = .ok (.aload_n 0, 1) := by decide +kernel
theorem dX7_init_1 : decode cX7_init 1 = .ok (.invokespecial 3, 3) := by decide +kernel
theorem dX7_init_4 : decode cX7_init 4 = .ok (.aload_n 0, 1) := by decide +kernel
theorem dX7_init_5 : decode cX7_init 5 = .ok (.iconst 3, 1) := by decide +kernel
theorem dX7_init_6 : decode cX7_init 6 = .ok (.putfield 11, 3) := by decide +kernel
theorem dX7_init_9 : decode cX7_init 9 = .ok (.aload_n 0, 1) := by decide +kernel
theorem dX7_init_10 : decode cX7_init 10 = .ok (.bipush 16, 2) := by decide +kernel
theorem dX7_init_12 : decode cX7_init 12 = .ok (.newarray .int, 2) := by decide +kernel
theorem dX7_init_14 : decode cX7_init 14 = .ok (.putfield 15, 3) := by decide +kernel
theorem dX7_init_17 : decode cX7_init 17 = .ok (.aload_n 0, 1) := by decide +kernel
theorem dX7_init_18 : decode cX7_init 18 = .ok (.bipush 16, 2) := by decide +kernel
theorem dX7_init_20 : decode cX7_init 20 = .ok (.newarray .int, 2) := by decide +kernel
theorem dX7_init_22 : decode cX7_init 22 = .ok (.putfield 19, 3) := by decide +kernel
theorem dX7_init_25 : decode cX7_init 25 = .ok (.aload_n 0, 1) := by decide +kernel
theorem dX7_init_26 : decode cX7_init 26 = .ok (.bipush 16, 2) := by decide +kernel
theorem dX7_init_28 : decode cX7_init 28 = .ok (.newarray .int, 2) := by decide +kernel
theorem dX7_init_30 : decode cX7_init 30 = .ok (.putfield 22, 3) := by decide +kernel
theorem dX7_init_33 : decode cX7_init 33 = .ok (.aload_n 0, 1) := by decide +kernel
theorem dX7_init_34 : decode cX7_init 34 = .ok (.bipush 16, 2) := by decide +kernel
theorem dX7_init_36 : decode cX7_init 36 = .ok (.newarray .int, 2) := by decide +kernel
theorem dX7_init_38 : decode cX7_init 38 = .ok (.putfield 25, 3) := by decide +kernel
theorem dX7_init_41 : decode cX7_init 41 = .ok (.aload_n 0, 1) := by decide +kernel
theorem dX7_init_42 : decode cX7_init 42 = .ok (.bipush 16, 2) := by decide +kernel
theorem dX7_init_44 : decode cX7_init 44 = .ok (.newarray .int, 2) := by decide +kernel
theorem dX7_init_46 : decode cX7_init 46 = .ok (.putfield 28, 3) := by decide +kernel
theorem dX7_init_49 : decode cX7_init 49 = .ok (.aload_n 0, 1) := by decide +kernel
theorem dX7_init_50 : decode cX7_init 50 = .ok (.bipush 16, 2) := by decide +kernel
theorem dX7_init_52 : decode cX7_init 52 = .ok (.newarray .int, 2) := by decide +kernel
theorem dX7_init_54 : decode cX7_init 54 = .ok (.putfield 31, 3) := by decide +kernel
theorem dX7_init_57 : decode cX7_init 57 = .ok (.aload_n 0, 1) := by decide +kernel
theorem dX7_init_58 : decode cX7_init 58 = .ok (.bipush 16, 2) := by decide +kernel
theorem dX7_init_60 : decode cX7_init 60 = .ok (.newarray .int, 2) := by decide +kernel
theorem dX7_init_62 : decode cX7_init 62 = .ok (.putfield 34, 3) := by decide +kernel
theorem dX7_init_65 : decode cX7_init 65 = .ok (.aload_n 0, 1) := by decide +kernel
theorem dX7_init_66 : decode cX7_init 66 = .ok (.bipush 16, 2) := by decide +kernel
theorem dX7_init_68 : decode cX7_init 68 = .ok (.newarray .int, 2) := by decide +kernel
theorem dX7_init_70 : decode cX7_init 70 = .ok (.putfield 37, 3) := by decide +kernel
theorem dX7_init_73 : decode cX7_init 73 = .ok (.aload_n 0, 1) := by decide +kernel
theorem dX7_init_74 : decode cX7_init 74 = .ok (.bipush 16, 2) := by decide +kernel
theorem dX7_init_76 : decode cX7_init 76 = .ok (.newarray .int, 2) := by decide +kernel
theorem dX7_init_78 : decode cX7_init 78 = .ok (.putfield 40, 3) := by decide +kernel
theorem dX7_init_81 : decode cX7_init 81 = .ok (.return_, 1) := by decide +kernel
theorem dX7_clear_0 : decode cX7_clear 0 = .ok (.aload_n 0, 1) := by decide +kernel
theorem dX7_clear_1 : decode cX7_clear 1 = .ok (.iconst 0, 1) := by decide +kernel
theorem dX7_clear_2 : decode cX7_clear 2 = .ok (.putfield 43, 3) := by decide +kernel
theorem dX7_clear_5 : decode cX7_clear 5 = .ok (.aload_n 0, 1) := by decide +kernel
theorem dX7_clear_6 : decode cX7_clear 6 = .ok (.iconst 0, 1) := by decide +kernel
theorem dX7_clear_7 : decode cX7_clear 7 = .ok (.putfield 46, 3) := by decide +kernel
theorem dX7_clear_10 : decode cX7_clear 10 = .ok (.aload_n 0, 1) := by decide +kernel
theorem dX7_clear_11 : decode cX7_clear 11 = .ok (.iconst 3, 1) := by decide +kernel
theorem dX7_clear_12 : decode cX7_clear 12 = .ok (.putfield 11, 3) := by decide +kernel
theorem dX7_clear_15 : decode cX7_clear 15 = .ok (.aload_n 0, 1) := by decide +kernel
theorem dX7_clear_16 : decode cX7_clear 16 = .ok (.getfield 40, 3) := by decide +kernel
theorem dX7_clear_19 : decode cX7_clear 19 = .ok (.iconst 0, 1) := by decide +kernel
theorem dX7_clear_20 : decode cX7_clear 20 = .ok (.invokestatic 49, 3) := by decide +kernel
theorem dX7_clear_23 : decode cX7_clear 23 = .ok (.return_, 1) := by decide +kernel
theorem dX7_copy_0 : decode cX7_copy 0 = .ok (.aload_n 0, 1) := by decide +kernel
theorem dX7_copy_1 : decode cX7_copy 1 = .ok (.aload_n 1, 1) := by decide +kernel
theorem dX7_copy_2 : decode cX7_copy 2 = .ok (.getfield 43, 3) := by decide +kernel
theorem dX7_copy_5 : decode cX7_copy 5 = .ok (.putfield 43, 3) := by decide +kernel
theorem dX7_copy_8 : decode cX7_copy 8 = .ok (.aload_n 0, 1) := by decide +kernel
theorem dX7_copy_9 : decode cX7_copy 9 = .ok (.aload_n 1, 1) := by decide +kernel
theorem dX7_copy_10 : decode cX7_copy 10 = .ok (.getfield 46, 3) := by decide +kernel
theorem dX7_copy_13 : decode cX7_copy 13 = .ok (.putfield 46, 3) := by decide +kernel
theorem dX7_copy_16 : decode cX7_copy 16 = .ok (.aload_n 0, 1) := by decide +kernel
theorem dX7_copy_17 : decode cX7_copy 17 = .ok (.aload_n 1, 1) := by decide +kernel
theorem dX7_copy_18 : decode cX7_copy 18 = .ok (.getfield 11, 3) := by decide +kernel
theorem dX7_copy_21 : decode cX7_copy 21 = .ok (.putfield 11, 3) := by decide +kernel
theorem dX7_copy_24 : decode cX7_copy 24 = .ok (.aload_n 1, 1) := by decide +kernel
theorem dX7_copy_25 : decode cX7_copy 25 = .ok (.getfield 15, 3) := by decide +kernel
theorem dX7_copy_28 : decode cX7_copy 28 = .ok (.iconst 0, 1) := by decide +kernel
theorem dX7_copy_29 : decode cX7_copy 29 = .ok (.aload_n 0, 1) := by decide +kernel
theorem dX7_copy_30 : decode cX7_copy 30 = .ok (.getfield 15, 3) := by decide +kernel
theorem dX7_copy_33 : decode cX7_copy 33 = .ok (.iconst 0, 1) := by decide +kernel
theorem dX7_copy_34 : decode cX7_copy 34 = .ok (.bipush 16, 2) := by decide +kernel
theorem dX7_copy_36 : decode cX7_copy 36 = .ok (.invokestatic 55, 3) := by decide +kernel
theorem dX7_copy_39 : decode cX7_copy 39 = .ok (.aload_n 1, 1) := by decide +kernel
theorem dX7_copy_40 : decode cX7_copy 40 = .ok (.getfield 19, 3) := by decide +kernel
theorem dX7_copy_43 : decode cX7_copy 43 = .ok (.iconst 0, 1) := by decide +kernel
theorem dX7_copy_44 : decode cX7_copy 44 = .ok (.aload_n 0, 1) := by decide +kernel
theorem dX7_copy_45 : decode cX7_copy 45 = .ok (.getfield 19, 3) := by decide +kernel
theorem dX7_copy_48 : decode cX7_copy 48 = .ok (.iconst 0, 1) := by decide +kernel
theorem dX7_copy_49 : decode cX7_copy 49 = .ok (.bipush 16, 2) := by decide +kernel
theorem dX7_copy_51 : decode cX7_copy 51 = .ok (.invokestatic 55, 3) := by decide +kernel
theorem dX7_copy_54 : decode cX7_copy 54 = .ok (.aload_n 1, 1) := by decide +kernel
theorem dX7_copy_55 : decode cX7_copy 55 = .ok (.getfield 22, 3) := by decide +kernel
theorem dX7_copy_58 : decode cX7_copy 58 = .ok (.iconst 0, 1) := by decide +kernel
theorem dX7_copy_59 : decode cX7_copy 59 = .ok (.aload_n 0, 1) := by decide +kernel
theorem dX7_copy_60 : decode cX7_copy 60 = .ok (.getfield 22, 3) := by decide +kernel
theorem dX7_copy_63 : decode cX7_copy 63 = .ok (.iconst 0, 1) := by decide +kernel
theorem dX7_copy_64 : decode cX7_copy 64 = .ok (.bipush 16, 2) := by decide +kernel
theorem dX7_copy_66 : decode cX7_copy 66 = .ok (.invokestatic 55, 3) := by decide +kernel
theorem dX7_copy_69 : decode cX7_copy 69 = .ok (.aload_n 1, 1) := by decide +kernel
theorem dX7_copy_70 : decode cX7_copy 70 = .ok (.getfield 25, 3) := by decide +kernel
theorem dX7_copy_73 : decode cX7_copy 73 = .ok (.iconst 0, 1) := by decide +kernel
theorem dX7_copy_74 : decode cX7_copy 74 = .ok (.aload_n 0, 1) := by decide +kernel
theorem dX7_copy_75 : decode cX7_copy 75 = .ok (.getfield 25, 3) := by decide +kernel
theorem dX7_copy_78 : decode cX7_copy 78 = .ok (.iconst 0, 1) := by decide +kernel
theorem dX7_copy_79 : decode cX7_copy 79 = .ok (.bipush 16, 2) := by decide +kernel
theorem dX7_copy_81 : decode cX7_copy 81 = .ok (.invokestatic 55, 3) := by decide +kernel
theorem dX7_copy_84 : decode cX7_copy 84 = .ok (.aload_n 1, 1) := by decide +kernel
theorem dX7_copy_85 : decode cX7_copy 85 = .ok (.getfield 28, 3) := by decide +kernel
theorem dX7_copy_88 : decode cX7_copy 88 = .ok (.iconst 0, 1) := by decide +kernel
theorem dX7_copy_89 : decode cX7_copy 89 = .ok (.aload_n 0, 1) := by decide +kernel
theorem dX7_copy_90 : decode cX7_copy 90 = .ok (.getfield 28, 3) := by decide +kernel
theorem dX7_copy_93 : decode cX7_copy 93 = .ok (.iconst 0, 1) := by decide +kernel
theorem dX7_copy_94 : decode cX7_copy 94 = .ok (.bipush 16, 2) := by decide +kernel
theorem dX7_copy_96 : decode cX7_copy 96 = .ok (.invokestatic 55, 3) := by decide +kernel
theorem dX7_copy_99 : decode cX7_copy 99 = .ok (.aload_n 1, 1) := by decide +kernel
theorem dX7_copy_100 : decode cX7_copy 100 = .ok (.getfield 31, 3) := by decide +kernel
theorem dX7_copy_103 : decode cX7_copy 103 = .ok (.iconst 0, 1) := by decide +kernel
theorem dX7_copy_104 : decode cX7_copy 104 = .ok (.aload_n 0, 1) := by decide +kernel
theorem dX7_copy_105 : decode cX7_copy 105 = .ok (.getfield 31, 3) := by decide +kernel
theorem dX7_copy_108 : decode cX7_copy 108 = .ok (.iconst 0, 1) := by decide +kernel
theorem dX7_copy_109 : decode cX7_copy 109 = .ok (.bipush 16, 2) := by decide +kernel
theorem dX7_copy_111 : decode cX7_copy 111 = .ok (.invokestatic 55, 3) := by decide +kernel
theorem dX7_copy_114 : decode cX7_copy 114 = .ok (.aload_n 1, 1) := by decide +kernel
theorem dX7_copy_115 : decode cX7_copy 115 = .ok (.getfield 34, 3) := by decide +kernel
theorem dX7_copy_118 : decode cX7_copy 118 = .ok (.iconst 0, 1) := by decide +kernel
theorem dX7_copy_119 : decode cX7_copy 119 = .ok (.aload_n 0, 1) := by decide +kernel
theorem dX7_copy_120 : decode cX7_copy 120 = .ok (.getfield 34, 3) := by decide +kernel
theorem dX7_copy_123 : decode cX7_copy 123 = .ok (.iconst 0, 1) := by decide +kernel
theorem dX7_copy_124 : decode cX7_copy 124 = .ok (.bipush 16, 2) := by decide +kernel
theorem dX7_copy_126 : decode cX7_copy 126 = .ok (.invokestatic 55, 3) := by decide +kernel
theorem dX7_copy_129 : decode cX7_copy 129 = .ok (.aload_n 1, 1) := by decide +kernel
theorem dX7_copy_130 : decode cX7_copy 130 = .ok (.getfield 37, 3) := by decide +kernel
theorem dX7_copy_133 : decode cX7_copy 133 = .ok (.iconst 0, 1) := by decide +kernel
theorem dX7_copy_134 : decode cX7_copy 134 = .ok (.aload_n 0, 1) := by decide +kernel
theorem dX7_copy_135 : decode cX7_copy 135 = .ok (.getfield 37, 3) := by decide +kernel
theorem dX7_copy_138 : decode cX7_copy 138 = .ok (.iconst 0, 1) := by decide +kernel
theorem dX7_copy_139 : decode cX7_copy 139 = .ok (.bipush 16, 2) := by decide +kernel
theorem dX7_copy_141 : decode cX7_copy 141 = .ok (.invokestatic 55, 3) := by decide +kernel
theorem dX7_copy_144 : decode cX7_copy 144 = .ok (.aload_n 1, 1) := by decide +kernel
theorem dX7_copy_145 : decode cX7_copy 145 = .ok (.getfield 40, 3) := by decide +kernel
theorem dX7_copy_148 : decode cX7_copy 148 = .ok (.iconst 0, 1) := by decide +kernel
theorem dX7_copy_149 : decode cX7_copy 149 = .ok (.aload_n 0, 1) := by decide +kernel
theorem dX7_copy_150 : decode cX7_copy 150 = .ok (.getfield 40, 3) := by decide +kernel
theorem dX7_copy_153 : decode cX7_copy 153 = .ok (.iconst 0, 1) := by decide +kernel
theorem dX7_copy_154 : decode cX7_copy 154 = .ok (.bipush 16, 2) := by decide +kernel
theorem dX7_copy_156 : decode cX7_copy 156 = .ok (.invokestatic 55, 3) := by decide +kernel
theorem dX7_copy_159 : decode cX7_copy 159 = .ok (.return_, 1) := by decide +kernel
theorem dX7_has_0 : decode cX7_has 0 = .ok (.iload_n 1, 1) := by decide +kernel
theorem dX7_has_1 : decode cX7_has 1 = .ok (.ifCond .lt 15, 3) := by decide +kernel
theorem dX7_has_4 : decode cX7_has 4 = .ok (.iload_n 1, 1) := by decide +kernel
theorem dX7_has_5 : decode cX7_has 5 = .ok (.aload_n 0, 1) := by decide +kernel
theorem dX7_has_6 : decode cX7_has 6 = .ok (.getfield 43, 3) := by decide +kernel
theorem dX7_has_9 : decode cX7_has 9 = .ok (.if_icmp .ge 7, 3) := by decide +kernel
theorem dX7_has_12 : decode cX7_has 12 = .ok (.iconst 1, 1) := by decide +kernel
theorem dX7_has_13 : decode cX7_has 13 = .ok (.goto 4, 3) := by decide +kernel
theorem dX7_has_16 : decode cX7_has 16 = .ok (.iconst 0, 1) := by decide +kernel
theorem dX7_has_17 : decode cX7_has 17 = .ok (.ireturn, 1) := by decide +kernel
theorem dX7_hasPair_0 : decode cX7_hasPair 0 = .ok (.aload_n 0, 1) := by decide +kernel
theorem dX7_hasPair_1 : decode cX7_hasPair 1 = .ok (.iload_n 1, 1) := by decide +kernel
theorem dX7_hasPair_2 : decode cX7_hasPair 2 = .ok (.invokevirtual 61, 3) := by decide +kernel
theorem dX7_hasPair_5 : decode cX7_hasPair 5 = .ok (.ifCond .eq 20, 3) := by decide +kernel
theorem dX7_hasPair_8 : decode cX7_hasPair 8 = .ok (.aload_n 0, 1) := by decide +kernel
theorem dX7_hasPair_9 : decode cX7_hasPair 9 = .ok (.iload_n 2, 1) := by decide +kernel
theorem dX7_hasPair_10 : decode cX7_hasPair 10 = .ok (.invokevirtual 61, 3) := by decide +kernel
theorem dX7_hasPair_13 : decode cX7_hasPair 13 = .ok (.ifCond .eq 12, 3) := by decide +kernel
theorem dX7_hasPair_16 : decode cX7_hasPair 16 = .ok (.iload_n 1, 1) := by decide +kernel
theorem dX7_hasPair_17 : decode cX7_hasPair 17 = .ok (.iload_n 2, 1) := by decide +kernel
theorem dX7_hasPair_18 : decode cX7_hasPair 18 = .ok (.if_icmp .eq 7, 3) := by decide +kernel
theorem dX7_hasPair_21 : decode cX7_hasPair 21 = .ok (.iconst 1, 1) := by decide +kernel
theorem dX7_hasPair_22 : decode cX7_hasPair 22 = .ok (.goto 4, 3) := by decide +kernel
theorem dX7_hasPair_25 : decode cX7_hasPair 25 = .ok (.iconst 0, 1) := by decide +kernel
theorem dX7_hasPair_26 : decode cX7_hasPair 26 = .ok (.ireturn, 1) := by decide +kernel
theorem dX7_minutes_0 : decode cX7_minutes 0 = .ok (.aload_n 0, 1) := by decide +kernel
theorem dX7_minutes_1 : decode cX7_minutes 1 = .ok (.getfield 15, 3) := by decide +kernel
theorem dX7_minutes_4 : decode cX7_minutes 4 = .ok (.iload_n 1, 1) := by decide +kernel
theorem dX7_minutes_5 : decode cX7_minutes 5 = .ok (.iaload, 1) := by decide +kernel
theorem dX7_minutes_6 : decode cX7_minutes 6 = .ok (.aload_n 0, 1) := by decide +kernel
theorem dX7_minutes_7 : decode cX7_minutes 7 = .ok (.getfield 15, 3) := by decide +kernel
theorem dX7_minutes_10 : decode cX7_minutes 10 = .ok (.iload_n 2, 1) := by decide +kernel
theorem dX7_minutes_11 : decode cX7_minutes 11 = .ok (.iaload, 1) := by decide +kernel
theorem dX7_minutes_12 : decode cX7_minutes 12 = .ok (.isub, 1) := by decide +kernel
theorem dX7_minutes_13 : decode cX7_minutes 13 = .ok (.invokestatic 65, 3) := by decide +kernel
theorem dX7_minutes_16 : decode cX7_minutes 16 = .ok (.aload_n 0, 1) := by decide +kernel
theorem dX7_minutes_17 : decode cX7_minutes 17 = .ok (.getfield 19, 3) := by decide +kernel
theorem dX7_minutes_20 : decode cX7_minutes 20 = .ok (.iload_n 1, 1) := by decide +kernel
theorem dX7_minutes_21 : decode cX7_minutes 21 = .ok (.iaload, 1) := by decide +kernel
theorem dX7_minutes_22 : decode cX7_minutes 22 = .ok (.aload_n 0, 1) := by decide +kernel
theorem dX7_minutes_23 : decode cX7_minutes 23 = .ok (.getfield 19, 3) := by decide +kernel
theorem dX7_minutes_26 : decode cX7_minutes 26 = .ok (.iload_n 2, 1) := by decide +kernel
theorem dX7_minutes_27 : decode cX7_minutes 27 = .ok (.iaload, 1) := by decide +kernel
theorem dX7_minutes_28 : decode cX7_minutes 28 = .ok (.isub, 1) := by decide +kernel
theorem dX7_minutes_29 : decode cX7_minutes 29 = .ok (.invokestatic 65, 3) := by decide +kernel
theorem dX7_minutes_32 : decode cX7_minutes 32 = .ok (.iadd, 1) := by decide +kernel
theorem dX7_minutes_33 : decode cX7_minutes 33 = .ok (.ireturn, 1) := by decide +kernel
theorem dX7_isThere_0 : decode cX7_isThere 0 = .ok (.iload_n 2, 1) := by decide +kernel
theorem dX7_isThere_1 : decode cX7_isThere 1 = .ok (.aload_n 0, 1) := by decide +kernel
theorem dX7_isThere_2 : decode cX7_isThere 2 = .ok (.getfield 34, 3) := by decide +kernel
theorem dX7_isThere_5 : decode cX7_isThere 5 = .ok (.iload_n 1, 1) := by decide +kernel
theorem dX7_isThere_6 : decode cX7_isThere 6 = .ok (.iaload, 1) := by decide +kernel
theorem dX7_isThere_7 : decode cX7_isThere 7 = .ok (.if_icmp .lt 7, 3) := by decide +kernel
theorem dX7_isThere_10 : decode cX7_isThere 10 = .ok (.iconst 1, 1) := by decide +kernel
theorem dX7_isThere_11 : decode cX7_isThere 11 = .ok (.goto 4, 3) := by decide +kernel
theorem dX7_isThere_14 : decode cX7_isThere 14 = .ok (.iconst 0, 1) := by decide +kernel
theorem dX7_isThere_15 : decode cX7_isThere 15 = .ok (.ireturn, 1) := by decide +kernel
theorem dX7_isNew_0 : decode cX7_isNew 0 = .ok (.iload_n 2, 1) := by decide +kernel
theorem dX7_isNew_1 : decode cX7_isNew 1 = .ok (.aload_n 0, 1) := by decide +kernel
theorem dX7_isNew_2 : decode cX7_isNew 2 = .ok (.getfield 34, 3) := by decide +kernel
theorem dX7_isNew_5 : decode cX7_isNew 5 = .ok (.iload_n 1, 1) := by decide +kernel
theorem dX7_isNew_6 : decode cX7_isNew 6 = .ok (.iaload, 1) := by decide +kernel
theorem dX7_isNew_7 : decode cX7_isNew 7 = .ok (.if_icmp .lt 22, 3) := by decide +kernel
theorem dX7_isNew_10 : decode cX7_isNew 10 = .ok (.iload_n 2, 1) := by decide +kernel
theorem dX7_isNew_11 : decode cX7_isNew 11 = .ok (.aload_n 0, 1) := by decide +kernel
theorem dX7_isNew_12 : decode cX7_isNew 12 = .ok (.getfield 34, 3) := by decide +kernel
theorem dX7_isNew_15 : decode cX7_isNew 15 = .ok (.iload_n 1, 1) := by decide +kernel
theorem dX7_isNew_16 : decode cX7_isNew 16 = .ok (.iaload, 1) := by decide +kernel
theorem dX7_isNew_17 : decode cX7_isNew 17 = .ok (.isub, 1) := by decide +kernel
theorem dX7_isNew_18 : decode cX7_isNew 18 = .ok (.aload_n 0, 1) := by decide +kernel
theorem dX7_isNew_19 : decode cX7_isNew 19 = .ok (.getfield 46, 3) := by decide +kernel
theorem dX7_isNew_22 : decode cX7_isNew 22 = .ok (.if_icmp .gt 7, 3) := by decide +kernel
theorem dX7_isNew_25 : decode cX7_isNew 25 = .ok (.iconst 1, 1) := by decide +kernel
theorem dX7_isNew_26 : decode cX7_isNew 26 = .ok (.goto 4, 3) := by decide +kernel
theorem dX7_isNew_29 : decode cX7_isNew 29 = .ok (.iconst 0, 1) := by decide +kernel
theorem dX7_isNew_30 : decode cX7_isNew 30 = .ok (.ireturn, 1) := by decide +kernel
theorem dX7_waits_0 : decode cX7_waits 0 = .ok (.aload_n 0, 1) := by decide +kernel
theorem dX7_waits_1 : decode cX7_waits 1 = .ok (.getfield 37, 3) := by decide +kernel
theorem dX7_waits_4 : decode cX7_waits 4 = .ok (.iload_n 1, 1) := by decide +kernel
theorem dX7_waits_5 : decode cX7_waits 5 = .ok (.iaload, 1) := by decide +kernel
theorem dX7_waits_6 : decode cX7_waits 6 = .ok (.ifCond .le 24, 3) := by decide +kernel
theorem dX7_waits_9 : decode cX7_waits 9 = .ok (.iload_n 2, 1) := by decide +kernel
theorem dX7_waits_10 : decode cX7_waits 10 = .ok (.aload_n 0, 1) := by decide +kernel
theorem dX7_waits_11 : decode cX7_waits 11 = .ok (.getfield 34, 3) := by decide +kernel
theorem dX7_waits_14 : decode cX7_waits 14 = .ok (.iload_n 1, 1) := by decide +kernel
theorem dX7_waits_15 : decode cX7_waits 15 = .ok (.iaload, 1) := by decide +kernel
theorem dX7_waits_16 : decode cX7_waits 16 = .ok (.isub, 1) := by decide +kernel
theorem dX7_waits_17 : decode cX7_waits 17 = .ok (.aload_n 0, 1) := by decide +kernel
theorem dX7_waits_18 : decode cX7_waits 18 = .ok (.getfield 37, 3) := by decide +kernel
theorem dX7_waits_21 : decode cX7_waits 21 = .ok (.iload_n 1, 1) := by decide +kernel
theorem dX7_waits_22 : decode cX7_waits 22 = .ok (.iaload, 1) := by decide +kernel
theorem dX7_waits_23 : decode cX7_waits 23 = .ok (.if_icmp .gt 7, 3) := by decide +kernel
theorem dX7_waits_26 : decode cX7_waits 26 = .ok (.iconst 1, 1) := by decide +kernel
theorem dX7_waits_27 : decode cX7_waits 27 = .ok (.goto 4, 3) := by decide +kernel
theorem dX7_waits_30 : decode cX7_waits 30 = .ok (.iconst 0, 1) := by decide +kernel
theorem dX7_waits_31 : decode cX7_waits 31 = .ok (.ireturn, 1) := by decide +kernel
theorem dX8_init_0 : decode cX8_init 0 = .ok (.aload_n 0, 1) := by decide +kernel
theorem dX8_init_1 : decode cX8_init 1 = .ok (.invokespecial 5, 3) := by decide +kernel
theorem dX8_init_4 : decode cX8_init 4 = .ok (.aload_n 0, 1) := by decide +kernel
theorem dX8_init_5 : decode cX8_init 5 = .ok (.bipush 16, 2) := by decide +kernel
theorem dX8_init_7 : decode cX8_init 7 = .ok (.newarray .int, 2) := by decide +kernel
theorem dX8_init_9 : decode cX8_init 9 = .ok (.putfield 11, 3) := by decide +kernel
theorem dX8_init_12 : decode cX8_init 12 = .ok (.aload_n 0, 1) := by decide +kernel
theorem dX8_init_13 : decode cX8_init 13 = .ok (.iconst (-1), 1) := by decide +kernel
theorem dX8_init_14 : decode cX8_init 14 = .ok (.putfield 15, 3) := by decide +kernel
theorem dX8_init_17 : decode cX8_init 17 = .ok (.aload_n 0, 1) := by decide +kernel
theorem dX8_init_18 : decode cX8_init 18 = .ok (.iconst (-1), 1) := by decide +kernel
theorem dX8_init_19 : decode cX8_init 19 = .ok (.putfield 19, 3) := by decide +kernel
theorem dX8_init_22 : decode cX8_init 22 = .ok (.aload_n 0, 1) := by decide +kernel
theorem dX8_init_23 : decode cX8_init 23 = .ok (.bipush 13, 2) := by decide +kernel
theorem dX8_init_25 : decode cX8_init 25 = .ok (.newarray .int, 2) := by decide +kernel
theorem dX8_init_27 : decode cX8_init 27 = .ok (.putfield 22, 3) := by decide +kernel
theorem dX8_init_30 : decode cX8_init 30 = .ok (.aload_n 0, 1) := by decide +kernel
theorem dX8_init_31 : decode cX8_init 31 = .ok (.bipush 13, 2) := by decide +kernel
theorem dX8_init_33 : decode cX8_init 33 = .ok (.newarray .int, 2) := by decide +kernel
theorem dX8_init_35 : decode cX8_init 35 = .ok (.putfield 25, 3) := by decide +kernel
theorem dX8_init_38 : decode cX8_init 38 = .ok (.aload_n 0, 1) := by decide +kernel
theorem dX8_init_39 : decode cX8_init 39 = .ok (.bipush 13, 2) := by decide +kernel
theorem dX8_init_41 : decode cX8_init 41 = .ok (.newarray .int, 2) := by decide +kernel
theorem dX8_init_43 : decode cX8_init 43 = .ok (.putfield 28, 3) := by decide +kernel
theorem dX8_init_46 : decode cX8_init 46 = .ok (.aload_n 0, 1) := by decide +kernel
theorem dX8_init_47 : decode cX8_init 47 = .ok (.sipush 8192, 3) := by decide +kernel
theorem dX8_init_50 : decode cX8_init 50 = .ok (.newarray .int, 2) := by decide +kernel
theorem dX8_init_52 : decode cX8_init 52 = .ok (.putfield 31, 3) := by decide +kernel
theorem dX8_init_55 : decode cX8_init 55 = .ok (.aload_n 0, 1) := by decide +kernel
theorem dX8_init_56 : decode cX8_init 56 = .ok (.sipush 8192, 3) := by decide +kernel
theorem dX8_init_59 : decode cX8_init 59 = .ok (.newarray .int, 2) := by decide +kernel
theorem dX8_init_61 : decode cX8_init 61 = .ok (.putfield 34, 3) := by decide +kernel
theorem dX8_init_64 : decode cX8_init 64 = .ok (.return_, 1) := by decide +kernel
theorem dX8_seek_0 : decode cX8_seek 0 = .ok (.aload_n 0, 1) := by decide +kernel
theorem dX8_seek_1 : decode cX8_seek 1 = .ok (.getfield 37, 3) := by decide +kernel
theorem dX8_seek_4 : decode cX8_seek 4 = .ok (.ifCond .eq 20, 3) := by decide +kernel
theorem dX8_seek_7 : decode cX8_seek 7 = .ok (.aload_n 0, 1) := by decide +kernel
theorem dX8_seek_8 : decode cX8_seek 8 = .ok (.getfield 15, 3) := by decide +kernel
theorem dX8_seek_11 : decode cX8_seek 11 = .ok (.iload_n 2, 1) := by decide +kernel
theorem dX8_seek_12 : decode cX8_seek 12 = .ok (.if_icmp .ne 12, 3) := by decide +kernel
theorem dX8_seek_15 : decode cX8_seek 15 = .ok (.aload_n 0, 1) := by decide +kernel
theorem dX8_seek_16 : decode cX8_seek 16 = .ok (.getfield 19, 3) := by decide +kernel
theorem dX8_seek_19 : decode cX8_seek 19 = .ok (.iload_n 3, 1) := by decide +kernel
theorem dX8_seek_20 : decode cX8_seek 20 = .ok (.if_icmp .ne 4, 3) := by decide +kernel
theorem dX8_seek_23 : decode cX8_seek 23 = .ok (.return_, 1) := by decide +kernel
theorem dX8_seek_24 : decode cX8_seek 24 = .ok (.aload_n 0, 1) := by decide +kernel
theorem dX8_seek_25 : decode cX8_seek 25 = .ok (.iconst 1, 1) := by decide +kernel
theorem dX8_seek_26 : decode cX8_seek 26 = .ok (.putfield 37, 3) := by decide +kernel
theorem dX8_seek_29 : decode cX8_seek 29 = .ok (.aload_n 0, 1) := by decide +kernel
theorem dX8_seek_30 : decode cX8_seek 30 = .ok (.iload_n 2, 1) := by decide +kernel
theorem dX8_seek_31 : decode cX8_seek 31 = .ok (.putfield 15, 3) := by decide +kernel
theorem dX8_seek_34 : decode cX8_seek 34 = .ok (.aload_n 0, 1) := by decide +kernel
theorem dX8_seek_35 : decode cX8_seek 35 = .ok (.iload_n 3, 1) := by decide +kernel
theorem dX8_seek_36 : decode cX8_seek 36 = .ok (.putfield 19, 3) := by decide +kernel
theorem dX8_seek_39 : decode cX8_seek 39 = .ok (.aload_n 0, 1) := by decide +kernel
theorem dX8_seek_40 : decode cX8_seek 40 = .ok (.iconst (-1), 1) := by decide +kernel
theorem dX8_seek_41 : decode cX8_seek 41 = .ok (.putfield 41, 3) := by decide +kernel
theorem dX8_seek_44 : decode cX8_seek 44 = .ok (.aload_n 1, 1) := by decide +kernel
theorem dX8_seek_45 : decode cX8_seek 45 = .ok (.iload_n 2, 1) := by decide +kernel
theorem dX8_seek_46 : decode cX8_seek 46 = .ok (.iload_n 3, 1) := by decide +kernel
theorem dX8_seek_47 : decode cX8_seek 47 = .ok (.invokevirtual 44, 3) := by decide +kernel
theorem dX8_seek_50 : decode cX8_seek 50 = .ok (.iconst 1, 1) := by decide +kernel
theorem dX8_seek_51 : decode cX8_seek 51 = .ok (.if_icmp .ne 9, 3) := by decide +kernel
theorem dX8_seek_54 : decode cX8_seek 54 = .ok (.aload_n 0, 1) := by decide +kernel
theorem dX8_seek_55 : decode cX8_seek 55 = .ok (.iconst 0, 1) := by decide +kernel
theorem dX8_seek_56 : decode cX8_seek 56 = .ok (.putfield 41, 3) := by decide +kernel
theorem dX8_seek_59 : decode cX8_seek 59 = .ok (.return_, 1) := by decide +kernel
theorem dX8_seek_60 : decode cX8_seek 60 = .ok (.aload_n 1, 1) := by decide +kernel
theorem dX8_seek_61 : decode cX8_seek 61 = .ok (.iload_n 2, 1) := by decide +kernel
theorem dX8_seek_62 : decode cX8_seek 62 = .ok (.invokestatic 50, 3) := by decide +kernel
theorem dX8_seek_65 : decode cX8_seek 65 = .ok (.istore 4, 2) := by decide +kernel
theorem dX8_seek_67 : decode cX8_seek 67 = .ok (.iload 4, 2) := by decide +kernel
theorem dX8_seek_69 : decode cX8_seek 69 = .ok (.iload_n 3, 1) := by decide +kernel
theorem dX8_seek_70 : decode cX8_seek 70 = .ok (.ishr, 1) := by decide +kernel
theorem dX8_seek_71 : decode cX8_seek 71 = .ok (.iconst 1, 1) := by decide +kernel
theorem dX8_seek_72 : decode cX8_seek 72 = .ok (.iand, 1) := by decide +kernel
theorem dX8_seek_73 : decode cX8_seek 73 = .ok (.ifCond .ne 4, 3) := by decide +kernel
theorem dX8_seek_76 : decode cX8_seek 76 = .ok (.return_, 1) := by decide +kernel
theorem dX8_seek_77 : decode cX8_seek 77 = .ok (.aload_n 0, 1) := by decide +kernel
theorem dX8_seek_78 : decode cX8_seek 78 = .ok (.aload_n 1, 1) := by decide +kernel
theorem dX8_seek_79 : decode cX8_seek 79 = .ok (.iload_n 2, 1) := by decide +kernel
theorem dX8_seek_80 : decode cX8_seek 80 = .ok (.iload 4, 2) := by decide +kernel
theorem dX8_seek_82 : decode cX8_seek 82 = .ok (.iconst 1, 1) := by decide +kernel
theorem dX8_seek_83 : decode cX8_seek 83 = .ok (.iload_n 3, 1) := by decide +kernel
theorem dX8_seek_84 : decode cX8_seek 84 = .ok (.ishl, 1) := by decide +kernel
theorem dX8_seek_85 : decode cX8_seek 85 = .ok (.iconst (-1), 1) := by decide +kernel
theorem dX8_seek_86 : decode cX8_seek 86 = .ok (.ixor, 1) := by decide +kernel
theorem dX8_seek_87 : decode cX8_seek 87 = .ok (.iand, 1) := by decide +kernel
theorem dX8_seek_88 : decode cX8_seek 88 = .ok (.aload_n 1, 1) := by decide +kernel
theorem dX8_seek_89 : decode cX8_seek 89 = .ok (.getfield 54, 3) := by decide +kernel
theorem dX8_seek_92 : decode cX8_seek 92 = .ok (.iload_n 2, 1) := by decide +kernel
theorem dX8_seek_93 : decode cX8_seek 93 = .ok (.iaload, 1) := by decide +kernel
theorem dX8_seek_94 : decode cX8_seek 94 = .ok (.iconst (-1), 1) := by decide +kernel
theorem dX8_seek_95 : decode cX8_seek 95 = .ok (.ixor, 1) := by decide +kernel
theorem dX8_seek_96 : decode cX8_seek 96 = .ok (.iand, 1) := by decide +kernel
theorem dX8_seek_97 : decode cX8_seek 97 = .ok (.invokevirtual 57, 3) := by decide +kernel
theorem dX8_seek_100 : decode cX8_seek 100 = .ok (.aload_n 0, 1) := by decide +kernel
theorem dX8_seek_101 : decode cX8_seek 101 = .ok (.aload_n 1, 1) := by decide +kernel
theorem dX8_seek_102 : decode cX8_seek 102 = .ok (.iload_n 2, 1) := by decide +kernel
theorem dX8_seek_103 : decode cX8_seek 103 = .ok (.iload_n 3, 1) := by decide +kernel
theorem dX8_seek_104 : decode cX8_seek 104 = .ok (.invokevirtual 61, 3) := by decide +kernel
theorem dX8_seek_107 : decode cX8_seek 107 = .ok (.return_, 1) := by decide +kernel
theorem dX8_everyoneToKnow_0 : decode cX8_everyoneToKnow 0 = .ok (.aload_n 0, 1) := by decide +kernel
theorem dX8_everyoneToKnow_1 : decode cX8_everyoneToKnow 1 = .ok (.getfield 54, 3) := by decide +kernel
theorem dX8_everyoneToKnow_4 : decode cX8_everyoneToKnow 4 = .ok (.iload_n 1, 1) := by decide +kernel
theorem dX8_everyoneToKnow_5 : decode cX8_everyoneToKnow 5 = .ok (.iaload, 1) := by decide +kernel
theorem dX8_everyoneToKnow_6 : decode cX8_everyoneToKnow 6 = .ok (.istore_n 2, 1) := by decide +kernel
theorem dX8_everyoneToKnow_7 : decode cX8_everyoneToKnow 7 = .ok (.iconst 0, 1) := by decide +kernel
theorem dX8_everyoneToKnow_8 : decode cX8_everyoneToKnow 8 = .ok (.istore_n 3, 1) := by decide +kernel
theorem dX8_everyoneToKnow_9 : decode cX8_everyoneToKnow 9 = .ok (.iload_n 3, 1) := by decide +kernel
theorem dX8_everyoneToKnow_10 : decode cX8_everyoneToKnow 10 = .ok (.bipush 16, 2) := by decide +kernel
theorem dX8_everyoneToKnow_12 : decode cX8_everyoneToKnow 12 = .ok (.if_icmp .ge 110, 3) := by decide +kernel
theorem dX8_everyoneToKnow_15 : decode cX8_everyoneToKnow 15 = .ok (.iload_n 2, 1) := by decide +kernel
theorem dX8_everyoneToKnow_16 : decode cX8_everyoneToKnow 16 = .ok (.istore 4, 2) := by decide +kernel
theorem dX8_everyoneToKnow_18 : decode cX8_everyoneToKnow 18 = .ok (.iconst 0, 1) := by decide +kernel
theorem dX8_everyoneToKnow_19 : decode cX8_everyoneToKnow 19 = .ok (.istore 5, 2) := by decide +kernel
theorem dX8_everyoneToKnow_21 : decode cX8_everyoneToKnow 21 = .ok (.iload 5, 2) := by decide +kernel
theorem dX8_everyoneToKnow_23 : decode cX8_everyoneToKnow 23 = .ok (.aload_n 0, 1) := by decide +kernel
theorem dX8_everyoneToKnow_24 : decode cX8_everyoneToKnow 24 = .ok (.getfield 64, 3) := by decide +kernel
