theorem dX4_bestSet_42 : decode cX4_bestSet 42 = .ok (.istore 6, 2) := by decide +kernel
theorem dX4_bestSet_44 : decode cX4_bestSet 44 = .ok (.aload_n 0, 1) := by decide +kernel
theorem dX4_bestSet_45 : decode cX4_bestSet 45 = .ok (.getfield 46, 3) := by decide +kernel
theorem dX4_bestSet_48 : decode cX4_bestSet 48 = .ok (.iload 5, 2) := by decide +kernel
theorem dX4_bestSet_50 : decode cX4_bestSet 50 = .ok (.aload_n 0, 1) := by decide +kernel
theorem dX4_bestSet_51 : decode cX4_bestSet 51 = .ok (.getfield 46, 3) := by decide +kernel
theorem dX4_bestSet_54 : decode cX4_bestSet 54 = .ok (.iload 5, 2) := by decide +kernel
theorem dX4_bestSet_56 : decode cX4_bestSet 56 = .ok (.iload 5, 2) := by decide +kernel
theorem dX4_bestSet_58 : decode cX4_bestSet 58 = .ok (.iconst 1, 1) := by decide +kernel
theorem dX4_bestSet_59 : decode cX4_bestSet 59 = .ok (.isub, 1) := by decide +kernel
theorem dX4_bestSet_60 : decode cX4_bestSet 60 = .ok (.iand, 1) := by decide +kernel
theorem dX4_bestSet_61 : decode cX4_bestSet 61 = .ok (.iaload, 1) := by decide +kernel
theorem dX4_bestSet_62 : decode cX4_bestSet 62 = .ok (.aload_n 1, 1) := by decide +kernel
theorem dX4_bestSet_63 : decode cX4_bestSet 63 = .ok (.getfield 67, 3) := by decide +kernel
theorem dX4_bestSet_66 : decode cX4_bestSet 66 = .ok (.iload_n 2, 1) := by decide +kernel
theorem dX4_bestSet_67 : decode cX4_bestSet 67 = .ok (.aload_n 0, 1) := by decide +kernel
theorem dX4_bestSet_68 : decode cX4_bestSet 68 = .ok (.getfield 22, 3) := by decide +kernel
theorem dX4_bestSet_71 : decode cX4_bestSet 71 = .ok (.iload 6, 2) := by decide +kernel
theorem dX4_bestSet_73 : decode cX4_bestSet 73 = .ok (.iaload, 1) := by decide +kernel
theorem dX4_bestSet_74 : decode cX4_bestSet 74 = .ok (.invokevirtual 71, 3) := by decide +kernel
theorem dX4_bestSet_77 : decode cX4_bestSet 77 = .ok (.invokestatic 148, 3) := by decide +kernel
theorem dX4_bestSet_80 : decode cX4_bestSet 80 = .ok (.iadd, 1) := by decide +kernel
theorem dX4_bestSet_81 : decode cX4_bestSet 81 = .ok (.iastore, 1) := by decide +kernel
theorem dX4_bestSet_82 : decode cX4_bestSet 82 = .ok (.aload_n 0, 1) := by decide +kernel
theorem dX4_bestSet_83 : decode cX4_bestSet 83 = .ok (.getfield 46, 3) := by decide +kernel
theorem dX4_bestSet_86 : decode cX4_bestSet 86 = .ok (.iload 5, 2) := by decide +kernel
theorem dX4_bestSet_88 : decode cX4_bestSet 88 = .ok (.iaload, 1) := by decide +kernel
theorem dX4_bestSet_89 : decode cX4_bestSet 89 = .ok (.aload_n 0, 1) := by decide +kernel
theorem dX4_bestSet_90 : decode cX4_bestSet 90 = .ok (.getfield 139, 3) := by decide +kernel
theorem dX4_bestSet_93 : decode cX4_bestSet 93 = .ok (.if_icmp .ne 21, 3) := by decide +kernel
theorem dX4_bestSet_96 : decode cX4_bestSet 96 = .ok (.aload_n 0, 1) := by decide +kernel
theorem dX4_bestSet_97 : decode cX4_bestSet 97 = .ok (.getfield 43, 3) := by decide +kernel
theorem dX4_bestSet_100 : decode cX4_bestSet 100 = .ok (.iload 5, 2) := by decide +kernel
theorem dX4_bestSet_102 : decode cX4_bestSet 102 = .ok (.iaload, 1) := by decide +kernel
theorem dX4_bestSet_103 : decode cX4_bestSet 103 = .ok (.aload_n 0, 1) := by decide +kernel
theorem dX4_bestSet_104 : decode cX4_bestSet 104 = .ok (.getfield 92, 3) := by decide +kernel
theorem dX4_bestSet_107 : decode cX4_bestSet 107 = .ok (.if_icmp .ge 7, 3) := by decide +kernel
theorem dX4_bestSet_110 : decode cX4_bestSet 110 = .ok (.iconst 1, 1) := by decide +kernel
theorem dX4_bestSet_111 : decode cX4_bestSet 111 = .ok (.goto 4, 3) := by decide +kernel
theorem dX4_bestSet_114 : decode cX4_bestSet 114 = .ok (.iconst 0, 1) := by decide +kernel
theorem dX4_bestSet_115 : decode cX4_bestSet 115 = .ok (.istore 7, 2) := by decide +kernel
theorem dX4_bestSet_117 : decode cX4_bestSet 117 = .ok (.aload_n 0, 1) := by decide +kernel
theorem dX4_bestSet_118 : decode cX4_bestSet 118 = .ok (.getfield 43, 3) := by decide +kernel
theorem dX4_bestSet_121 : decode cX4_bestSet 121 = .ok (.iload 5, 2) := by decide +kernel
theorem dX4_bestSet_123 : decode cX4_bestSet 123 = .ok (.iaload, 1) := by decide +kernel
theorem dX4_bestSet_124 : decode cX4_bestSet 124 = .ok (.sipush 1000, 3) := by decide +kernel
theorem dX4_bestSet_127 : decode cX4_bestSet 127 = .ok (.if_icmp .ge 47, 3) := by decide +kernel
theorem dX4_bestSet_130 : decode cX4_bestSet 130 = .ok (.aload_n 0, 1) := by decide +kernel
theorem dX4_bestSet_131 : decode cX4_bestSet 131 = .ok (.getfield 46, 3) := by decide +kernel
theorem dX4_bestSet_134 : decode cX4_bestSet 134 = .ok (.iload 5, 2) := by decide +kernel
theorem dX4_bestSet_136 : decode cX4_bestSet 136 = .ok (.iaload, 1) := by decide +kernel
theorem dX4_bestSet_137 : decode cX4_bestSet 137 = .ok (.aload_n 0, 1) := by decide +kernel
theorem dX4_bestSet_138 : decode cX4_bestSet 138 = .ok (.getfield 139, 3) := by decide +kernel
theorem dX4_bestSet_141 : decode cX4_bestSet 141 = .ok (.if_icmp .gt 8, 3) := by decide +kernel
theorem dX4_bestSet_144 : decode cX4_bestSet 144 = .ok (.iload 7, 2) := by decide +kernel
theorem dX4_bestSet_146 : decode cX4_bestSet 146 = .ok (.ifCond .eq 28, 3) := by decide +kernel
theorem dX4_bestSet_149 : decode cX4_bestSet 149 = .ok (.iload 5, 2) := by decide +kernel
theorem dX4_bestSet_151 : decode cX4_bestSet 151 = .ok (.istore_n 3, 1) := by decide +kernel
theorem dX4_bestSet_152 : decode cX4_bestSet 152 = .ok (.aload_n 0, 1) := by decide +kernel
theorem dX4_bestSet_153 : decode cX4_bestSet 153 = .ok (.aload_n 0, 1) := by decide +kernel
theorem dX4_bestSet_154 : decode cX4_bestSet 154 = .ok (.getfield 46, 3) := by decide +kernel
theorem dX4_bestSet_157 : decode cX4_bestSet 157 = .ok (.iload 5, 2) := by decide +kernel
theorem dX4_bestSet_159 : decode cX4_bestSet 159 = .ok (.iaload, 1) := by decide +kernel
theorem dX4_bestSet_160 : decode cX4_bestSet 160 = .ok (.putfield 139, 3) := by decide +kernel
theorem dX4_bestSet_163 : decode cX4_bestSet 163 = .ok (.aload_n 0, 1) := by decide +kernel
theorem dX4_bestSet_164 : decode cX4_bestSet 164 = .ok (.aload_n 0, 1) := by decide +kernel
theorem dX4_bestSet_165 : decode cX4_bestSet 165 = .ok (.getfield 43, 3) := by decide +kernel
theorem dX4_bestSet_168 : decode cX4_bestSet 168 = .ok (.iload 5, 2) := by decide +kernel
theorem dX4_bestSet_170 : decode cX4_bestSet 170 = .ok (.iaload, 1) := by decide +kernel
theorem dX4_bestSet_171 : decode cX4_bestSet 171 = .ok (.putfield 92, 3) := by decide +kernel
theorem dX4_bestSet_174 : decode cX4_bestSet 174 = .ok (.iinc 5 1, 3) := by decide +kernel
theorem dX4_bestSet_177 : decode cX4_bestSet 177 = .ok (.goto (-147), 3) := by decide +kernel
theorem dX4_bestSet_180 : decode cX4_bestSet 180 = .ok (.iload_n 3, 1) := by decide +kernel
theorem dX4_bestSet_181 : decode cX4_bestSet 181 = .ok (.ireturn, 1) := by decide +kernel
theorem dX4_worthOf_0 : decode cX4_worthOf 0 = .ok (.iconst 0, 1) := by decide +kernel
theorem dX4_worthOf_1 : decode cX4_worthOf 1 = .ok (.istore_n 1, 1) := by decide +kernel
theorem dX4_worthOf_2 : decode cX4_worthOf 2 = .ok (.iconst 0, 1) := by decide +kernel
theorem dX4_worthOf_3 : decode cX4_worthOf 3 = .ok (.istore_n 2, 1) := by decide +kernel
theorem dX4_worthOf_4 : decode cX4_worthOf 4 = .ok (.iload_n 2, 1) := by decide +kernel
theorem dX4_worthOf_5 : decode cX4_worthOf 5 = .ok (.iconst 4, 1) := by decide +kernel
theorem dX4_worthOf_6 : decode cX4_worthOf 6 = .ok (.if_icmp .ge 24, 3) := by decide +kernel
theorem dX4_worthOf_9 : decode cX4_worthOf 9 = .ok (.iload_n 0, 1) := by decide +kernel
theorem dX4_worthOf_10 : decode cX4_worthOf 10 = .ok (.iload_n 2, 1) := by decide +kernel
theorem dX4_worthOf_11 : decode cX4_worthOf 11 = .ok (.ishr, 1) := by decide +kernel
theorem dX4_worthOf_12 : decode cX4_worthOf 12 = .ok (.iconst 1, 1) := by decide +kernel
theorem dX4_worthOf_13 : decode cX4_worthOf 13 = .ok (.iand, 1) := by decide +kernel
theorem dX4_worthOf_14 : decode cX4_worthOf 14 = .ok (.iconst 1, 1) := by decide +kernel
theorem dX4_worthOf_15 : decode cX4_worthOf 15 = .ok (.if_icmp .ne 9, 3) := by decide +kernel
theorem dX4_worthOf_18 : decode cX4_worthOf 18 = .ok (.iload_n 1, 1) := by decide +kernel
theorem dX4_worthOf_19 : decode cX4_worthOf 19 = .ok (.iload_n 2, 1) := by decide +kernel
theorem dX4_worthOf_20 : decode cX4_worthOf 20 = .ok (.iconst 1, 1) := by decide +kernel
theorem dX4_worthOf_21 : decode cX4_worthOf 21 = .ok (.iadd, 1) := by decide +kernel
theorem dX4_worthOf_22 : decode cX4_worthOf 22 = .ok (.iadd, 1) := by decide +kernel
theorem dX4_worthOf_23 : decode cX4_worthOf 23 = .ok (.istore_n 1, 1) := by decide +kernel
theorem dX4_worthOf_24 : decode cX4_worthOf 24 = .ok (.iinc 2 1, 3) := by decide +kernel
theorem dX4_worthOf_27 : decode cX4_worthOf 27 = .ok (.goto (-23), 3) := by decide +kernel
theorem dX4_worthOf_30 : decode cX4_worthOf 30 = .ok (.iload_n 1, 1) := by decide +kernel
theorem dX4_worthOf_31 : decode cX4_worthOf 31 = .ok (.ireturn, 1) := by decide +kernel
theorem dX4_reckonLatest_0 : decode cX4_reckonLatest 0 = .ok (.iconst 0, 1) := by decide +kernel
theorem dX4_reckonLatest_1 : decode cX4_reckonLatest 1 = .ok (.istore_n 3, 1) := by decide +kernel
theorem dX4_reckonLatest_2 : decode cX4_reckonLatest 2 = .ok (.iload_n 3, 1) := by decide +kernel
theorem dX4_reckonLatest_3 : decode cX4_reckonLatest 3 = .ok (.iload_n 1, 1) := by decide +kernel
theorem dX4_reckonLatest_4 : decode cX4_reckonLatest 4 = .ok (.if_icmp .gt 76, 3) := by decide +kernel
theorem dX4_reckonLatest_7 : decode cX4_reckonLatest 7 = .ok (.iload_n 3, 1) := by decide +kernel
theorem dX4_reckonLatest_8 : decode cX4_reckonLatest 8 = .ok (.iload_n 1, 1) := by decide +kernel
theorem dX4_reckonLatest_9 : decode cX4_reckonLatest 9 = .ok (.iconst (-1), 1) := by decide +kernel
theorem dX4_reckonLatest_10 : decode cX4_reckonLatest 10 = .ok (.ixor, 1) := by decide +kernel
theorem dX4_reckonLatest_11 : decode cX4_reckonLatest 11 = .ok (.iand, 1) := by decide +kernel
theorem dX4_reckonLatest_12 : decode cX4_reckonLatest 12 = .ok (.ifCond .ne 62, 3) := by decide +kernel
theorem dX4_reckonLatest_15 : decode cX4_reckonLatest 15 = .ok (.iconst 0, 1) := by decide +kernel
theorem dX4_reckonLatest_16 : decode cX4_reckonLatest 16 = .ok (.istore 4, 2) := by decide +kernel
theorem dX4_reckonLatest_18 : decode cX4_reckonLatest 18 = .ok (.iload 4, 2) := by decide +kernel
theorem dX4_reckonLatest_20 : decode cX4_reckonLatest 20 = .ok (.aload_n 0, 1) := by decide +kernel
theorem dX4_reckonLatest_21 : decode cX4_reckonLatest 21 = .ok (.getfield 53, 3) := by decide +kernel
theorem dX4_reckonLatest_24 : decode cX4_reckonLatest 24 = .ok (.if_icmp .ge 50, 3) := by decide +kernel
theorem dX4_reckonLatest_27 : decode cX4_reckonLatest 27 = .ok (.iload_n 1, 1) := by decide +kernel
theorem dX4_reckonLatest_28 : decode cX4_reckonLatest 28 = .ok (.iload_n 3, 1) := by decide +kernel
theorem dX4_reckonLatest_29 : decode cX4_reckonLatest 29 = .ok (.iconst (-1), 1) := by decide +kernel
theorem dX4_reckonLatest_30 : decode cX4_reckonLatest 30 = .ok (.ixor, 1) := by decide +kernel
theorem dX4_reckonLatest_31 : decode cX4_reckonLatest 31 = .ok (.iand, 1) := by decide +kernel
theorem dX4_reckonLatest_32 : decode cX4_reckonLatest 32 = .ok (.iload 4, 2) := by decide +kernel
theorem dX4_reckonLatest_34 : decode cX4_reckonLatest 34 = .ok (.ishr, 1) := by decide +kernel
theorem dX4_reckonLatest_35 : decode cX4_reckonLatest 35 = .ok (.iconst 1, 1) := by decide +kernel
theorem dX4_reckonLatest_36 : decode cX4_reckonLatest 36 = .ok (.iand, 1) := by decide +kernel
theorem dX4_reckonLatest_37 : decode cX4_reckonLatest 37 = .ok (.iconst 1, 1) := by decide +kernel
theorem dX4_reckonLatest_38 : decode cX4_reckonLatest 38 = .ok (.if_icmp .ne 30, 3) := by decide +kernel
theorem dX4_reckonLatest_41 : decode cX4_reckonLatest 41 = .ok (.aload_n 0, 1) := by decide +kernel
theorem dX4_reckonLatest_42 : decode cX4_reckonLatest 42 = .ok (.getfield 40, 3) := by decide +kernel
theorem dX4_reckonLatest_45 : decode cX4_reckonLatest 45 = .ok (.iload_n 3, 1) := by decide +kernel
theorem dX4_reckonLatest_46 : decode cX4_reckonLatest 46 = .ok (.bipush 10, 2) := by decide +kernel
theorem dX4_reckonLatest_48 : decode cX4_reckonLatest 48 = .ok (.imul, 1) := by decide +kernel
theorem dX4_reckonLatest_49 : decode cX4_reckonLatest 49 = .ok (.iload 4, 2) := by decide +kernel
theorem dX4_reckonLatest_51 : decode cX4_reckonLatest 51 = .ok (.iadd, 1) := by decide +kernel
theorem dX4_reckonLatest_52 : decode cX4_reckonLatest 52 = .ok (.iload_n 3, 1) := by decide +kernel
theorem dX4_reckonLatest_53 : decode cX4_reckonLatest 53 = .ok (.ifCond .ne 7, 3) := by decide +kernel
theorem dX4_reckonLatest_56 : decode cX4_reckonLatest 56 = .ok (.iload_n 2, 1) := by decide +kernel
theorem dX4_reckonLatest_57 : decode cX4_reckonLatest 57 = .ok (.goto 10, 3) := by decide +kernel
theorem dX4_reckonLatest_60 : decode cX4_reckonLatest 60 = .ok (.aload_n 0, 1) := by decide +kernel
theorem dX4_reckonLatest_61 : decode cX4_reckonLatest 61 = .ok (.iload_n 3, 1) := by decide +kernel
theorem dX4_reckonLatest_62 : decode cX4_reckonLatest 62 = .ok (.iload 4, 2) := by decide +kernel
theorem dX4_reckonLatest_64 : decode cX4_reckonLatest 64 = .ok (.invokevirtual 151, 3) := by decide +kernel
theorem dX4_reckonLatest_67 : decode cX4_reckonLatest 67 = .ok (.iastore, 1) := by decide +kernel
theorem dX4_reckonLatest_68 : decode cX4_reckonLatest 68 = .ok (.iinc 4 1, 3) := by decide +kernel
theorem dX4_reckonLatest_71 : decode cX4_reckonLatest 71 = .ok (.goto (-53), 3) := by decide +kernel
theorem dX4_reckonLatest_74 : decode cX4_reckonLatest 74 = .ok (.iinc 3 1, 3) := by decide +kernel
theorem dX4_reckonLatest_77 : decode cX4_reckonLatest 77 = .ok (.goto (-75), 3) := by decide +kernel
theorem dX4_reckonLatest_80 : decode cX4_reckonLatest 80 = .ok (.return_, 1) := by decide +kernel
theorem dX4_latest_0 : decode cX4_latest 0 = .ok (.iconst (-1), 1) := by decide +kernel
theorem dX4_latest_1 : decode cX4_latest 1 = .ok (.istore_n 3, 1) := by decide +kernel
theorem dX4_latest_2 : decode cX4_latest 2 = .ok (.iconst 0, 1) := by decide +kernel
theorem dX4_latest_3 : decode cX4_latest 3 = .ok (.istore 4, 2) := by decide +kernel
theorem dX4_latest_5 : decode cX4_latest 5 = .ok (.iload 4, 2) := by decide +kernel
theorem dX4_latest_7 : decode cX4_latest 7 = .ok (.aload_n 0, 1) := by decide +kernel
theorem dX4_latest_8 : decode cX4_latest 8 = .ok (.getfield 53, 3) := by decide +kernel
theorem dX4_latest_11 : decode cX4_latest 11 = .ok (.if_icmp .ge 106, 3) := by decide +kernel
theorem dX4_latest_14 : decode cX4_latest 14 = .ok (.iload_n 1, 1) := by decide +kernel
theorem dX4_latest_15 : decode cX4_latest 15 = .ok (.iload 4, 2) := by decide +kernel
theorem dX4_latest_17 : decode cX4_latest 17 = .ok (.ishr, 1) := by decide +kernel
theorem dX4_latest_18 : decode cX4_latest 18 = .ok (.iconst 1, 1) := by decide +kernel
theorem dX4_latest_19 : decode cX4_latest 19 = .ok (.iand, 1) := by decide +kernel
theorem dX4_latest_20 : decode cX4_latest 20 = .ok (.iconst 1, 1) := by decide +kernel
theorem dX4_latest_21 : decode cX4_latest 21 = .ok (.if_icmp .ne 90, 3) := by decide +kernel
theorem dX4_latest_24 : decode cX4_latest 24 = .ok (.aload_n 0, 1) := by decide +kernel
theorem dX4_latest_25 : decode cX4_latest 25 = .ok (.getfield 22, 3) := by decide +kernel
theorem dX4_latest_28 : decode cX4_latest 28 = .ok (.iload 4, 2) := by decide +kernel
theorem dX4_latest_30 : decode cX4_latest 30 = .ok (.iaload, 1) := by decide +kernel
theorem dX4_latest_31 : decode cX4_latest 31 = .ok (.istore 5, 2) := by decide +kernel
theorem dX4_latest_33 : decode cX4_latest 33 = .ok (.aload_n 0, 1) := by decide +kernel
theorem dX4_latest_34 : decode cX4_latest 34 = .ok (.getfield 40, 3) := by decide +kernel
theorem dX4_latest_37 : decode cX4_latest 37 = .ok (.iload_n 1, 1) := by decide +kernel
theorem dX4_latest_38 : decode cX4_latest 38 = .ok (.iconst 1, 1) := by decide +kernel
theorem dX4_latest_39 : decode cX4_latest 39 = .ok (.iload 4, 2) := by decide +kernel
theorem dX4_latest_41 : decode cX4_latest 41 = .ok (.ishl, 1) := by decide +kernel
theorem dX4_latest_42 : decode cX4_latest 42 = .ok (.ixor, 1) := by decide +kernel
theorem dX4_latest_43 : decode cX4_latest 43 = .ok (.bipush 10, 2) := by decide +kernel
theorem dX4_latest_45 : decode cX4_latest 45 = .ok (.imul, 1) := by decide +kernel
theorem dX4_latest_46 : decode cX4_latest 46 = .ok (.iload 4, 2) := by decide +kernel
theorem dX4_latest_48 : decode cX4_latest 48 = .ok (.iadd, 1) := by decide +kernel
theorem dX4_latest_49 : decode cX4_latest 49 = .ok (.iaload, 1) := by decide +kernel
theorem dX4_latest_50 : decode cX4_latest 50 = .ok (.istore 6, 2) := by decide +kernel
theorem dX4_latest_52 : decode cX4_latest 52 = .ok (.iload 6, 2) := by decide +kernel
theorem dX4_latest_54 : decode cX4_latest 54 = .ok (.aload_n 0, 1) := by decide +kernel
theorem dX4_latest_55 : decode cX4_latest 55 = .ok (.getfield 31, 3) := by decide +kernel
theorem dX4_latest_58 : decode cX4_latest 58 = .ok (.iload 5, 2) := by decide +kernel
theorem dX4_latest_60 : decode cX4_latest 60 = .ok (.iaload, 1) := by decide +kernel
theorem dX4_latest_61 : decode cX4_latest 61 = .ok (.invokestatic 136, 3) := by decide +kernel
theorem dX4_latest_64 : decode cX4_latest 64 = .ok (.aload_n 0, 1) := by decide +kernel
theorem dX4_latest_65 : decode cX4_latest 65 = .ok (.getfield 34, 3) := by decide +kernel
theorem dX4_latest_68 : decode cX4_latest 68 = .ok (.iload 5, 2) := by decide +kernel
theorem dX4_latest_70 : decode cX4_latest 70 = .ok (.iaload, 1) := by decide +kernel
theorem dX4_latest_71 : decode cX4_latest 71 = .ok (.isub, 1) := by decide +kernel
theorem dX4_latest_72 : decode cX4_latest 72 = .ok (.istore 7, 2) := by decide +kernel
theorem dX4_latest_74 : decode cX4_latest 74 = .ok (.iload 7, 2) := by decide +kernel
theorem dX4_latest_76 : decode cX4_latest 76 = .ok (.aload_n 0, 1) := by decide +kernel
theorem dX4_latest_77 : decode cX4_latest 77 = .ok (.getfield 28, 3) := by decide +kernel
theorem dX4_latest_80 : decode cX4_latest 80 = .ok (.iload 5, 2) := by decide +kernel
theorem dX4_latest_82 : decode cX4_latest 82 = .ok (.iaload, 1) := by decide +kernel
theorem dX4_latest_83 : decode cX4_latest 83 = .ok (.if_icmp .lt 28, 3) := by decide +kernel
theorem dX4_latest_86 : decode cX4_latest 86 = .ok (.iload_n 3, 1) := by decide +kernel
theorem dX4_latest_87 : decode cX4_latest 87 = .ok (.iload 7, 2) := by decide +kernel
theorem dX4_latest_89 : decode cX4_latest 89 = .ok (.aload_n 0, 1) := by decide +kernel
theorem dX4_latest_90 : decode cX4_latest 90 = .ok (.getfield 37, 3) := by decide +kernel
theorem dX4_latest_93 : decode cX4_latest 93 = .ok (.aload_n 0, 1) := by decide +kernel
theorem dX4_latest_94 : decode cX4_latest 94 = .ok (.getfield 22, 3) := by decide +kernel
theorem dX4_latest_97 : decode cX4_latest 97 = .ok (.iload_n 2, 1) := by decide +kernel
theorem dX4_latest_98 : decode cX4_latest 98 = .ok (.iaload, 1) := by decide +kernel
theorem dX4_latest_99 : decode cX4_latest 99 = .ok (.bipush 16, 2) := by decide +kernel
theorem dX4_latest_101 : decode cX4_latest 101 = .ok (.imul, 1) := by decide +kernel
theorem dX4_latest_102 : decode cX4_latest 102 = .ok (.iload 5, 2) := by decide +kernel
theorem dX4_latest_104 : decode cX4_latest 104 = .ok (.iadd, 1) := by decide +kernel
theorem dX4_latest_105 : decode cX4_latest 105 = .ok (.iaload, 1) := by decide +kernel
theorem dX4_latest_106 : decode cX4_latest 106 = .ok (.isub, 1) := by decide +kernel
theorem dX4_latest_107 : decode cX4_latest 107 = .ok (.invokestatic 124, 3) := by decide +kernel
theorem dX4_latest_110 : decode cX4_latest 110 = .ok (.istore_n 3, 1) := by decide +kernel
theorem dX4_latest_111 : decode cX4_latest 111 = .ok (.iinc 4 1, 3) := by decide +kernel
theorem dX4_latest_114 : decode cX4_latest 114 = .ok (.goto (-109), 3) := by decide +kernel
theorem dX4_latest_117 : decode cX4_latest 117 = .ok (.iload_n 3, 1) := by decide +kernel
theorem dX4_latest_118 : decode cX4_latest 118 = .ok (.ireturn, 1) := by decide +kernel
theorem dX4_putInOrder_0 : decode cX4_putInOrder 0 = .ok (.aload_n 0, 1) := by decide +kernel
theorem dX4_putInOrder_1 : decode cX4_putInOrder 1 = .ok (.iconst 0, 1) := by decide +kernel
theorem dX4_putInOrder_2 : decode cX4_putInOrder 2 = .ok (.putfield 154, 3) := by decide +kernel
theorem dX4_putInOrder_5 : decode cX4_putInOrder 5 = .ok (.iload_n 2, 1) := by decide +kernel
theorem dX4_putInOrder_6 : decode cX4_putInOrder 6 = .ok (.istore_n 3, 1) := by decide +kernel
theorem dX4_putInOrder_7 : decode cX4_putInOrder 7 = .ok (.iload_n 1, 1) := by decide +kernel
theorem dX4_putInOrder_8 : decode cX4_putInOrder 8 = .ok (.istore 4, 2) := by decide +kernel
theorem dX4_putInOrder_10 : decode cX4_putInOrder 10 = .ok (.iconst 0, 1) := by decide +kernel
theorem dX4_putInOrder_11 : decode cX4_putInOrder 11 = .ok (.istore 5, 2) := by decide +kernel
theorem dX4_putInOrder_13 : decode cX4_putInOrder 13 = .ok (.iconst 0, 1) := by decide +kernel
theorem dX4_putInOrder_14 : decode cX4_putInOrder 14 = .ok (.istore 6, 2) := by decide +kernel
theorem dX4_putInOrder_16 : decode cX4_putInOrder 16 = .ok (.iload 6, 2) := by decide +kernel
theorem dX4_putInOrder_18 : decode cX4_putInOrder 18 = .ok (.aload_n 0, 1) := by decide +kernel
theorem dX4_putInOrder_19 : decode cX4_putInOrder 19 = .ok (.getfield 53, 3) := by decide +kernel
theorem dX4_putInOrder_22 : decode cX4_putInOrder 22 = .ok (.if_icmp .ge 148, 3) := by decide +kernel
theorem dX4_putInOrder_25 : decode cX4_putInOrder 25 = .ok (.iload_n 3, 1) := by decide +kernel
theorem dX4_putInOrder_26 : decode cX4_putInOrder 26 = .ok (.ifCond .eq 144, 3) := by decide +kernel
theorem dX4_putInOrder_29 : decode cX4_putInOrder 29 = .ok (.iconst 0, 1) := by decide +kernel
theorem dX4_putInOrder_30 : decode cX4_putInOrder 30 = .ok (.istore 7, 2) := by decide +kernel
theorem dX4_putInOrder_32 : decode cX4_putInOrder 32 = .ok (.iload 7, 2) := by decide +kernel
theorem dX4_putInOrder_34 : decode cX4_putInOrder 34 = .ok (.aload_n 0, 1) := by decide +kernel
theorem dX4_putInOrder_35 : decode cX4_putInOrder 35 = .ok (.getfield 53, 3) := by decide +kernel
theorem dX4_putInOrder_38 : decode cX4_putInOrder 38 = .ok (.if_icmp .ge 126, 3) := by decide +kernel
theorem dX4_putInOrder_41 : decode cX4_putInOrder 41 = .ok (.iload_n 3, 1) := by decide +kernel
theorem dX4_putInOrder_42 : decode cX4_putInOrder 42 = .ok (.iload 7, 2) := by decide +kernel
theorem dX4_putInOrder_44 : decode cX4_putInOrder 44 = .ok (.ishr, 1) := by decide +kernel
theorem dX4_putInOrder_45 : decode cX4_putInOrder 45 = .ok (.iconst 1, 1) := by decide +kernel
theorem dX4_putInOrder_46 : decode cX4_putInOrder 46 = .ok (.iand, 1) := by decide +kernel
theorem dX4_putInOrder_47 : decode cX4_putInOrder 47 = .ok (.ifCond .ne 6, 3) := by decide +kernel
theorem dX4_putInOrder_50 : decode cX4_putInOrder 50 = .ok (.goto 108, 3) := by decide +kernel
theorem dX4_putInOrder_53 : decode cX4_putInOrder 53 = .ok (.aload_n 0, 1) := by decide +kernel
theorem dX4_putInOrder_54 : decode cX4_putInOrder 54 = .ok (.aload_n 0, 1) := by decide +kernel
theorem dX4_putInOrder_55 : decode cX4_putInOrder 55 = .ok (.getfield 22, 3) := by decide +kernel
theorem dX4_putInOrder_58 : decode cX4_putInOrder 58 = .ok (.iload 7, 2) := by decide +kernel
theorem dX4_putInOrder_60 : decode cX4_putInOrder 60 = .ok (.iaload, 1) := by decide +kernel
theorem dX4_putInOrder_61 : decode cX4_putInOrder 61 = .ok (.iload 5, 2) := by decide +kernel
theorem dX4_putInOrder_63 : decode cX4_putInOrder 63 = .ok (.aload_n 0, 1) := by decide +kernel
theorem dX4_putInOrder_64 : decode cX4_putInOrder 64 = .ok (.getfield 37, 3) := by decide +kernel
theorem dX4_putInOrder_67 : decode cX4_putInOrder 67 = .ok (.iload 4, 2) := by decide +kernel
theorem dX4_putInOrder_69 : decode cX4_putInOrder 69 = .ok (.bipush 16, 2) := by decide +kernel
theorem dX4_putInOrder_71 : decode cX4_putInOrder 71 = .ok (.imul, 1) := by decide +kernel
theorem dX4_putInOrder_72 : decode cX4_putInOrder 72 = .ok (.aload_n 0, 1) := by decide +kernel
theorem dX4_putInOrder_73 : decode cX4_putInOrder 73 = .ok (.getfield 22, 3) := by decide +kernel
theorem dX4_putInOrder_76 : decode cX4_putInOrder 76 = .ok (.iload 7, 2) := by decide +kernel
theorem dX4_putInOrder_78 : decode cX4_putInOrder 78 = .ok (.iaload, 1) := by decide +kernel
theorem dX4_putInOrder_79 : decode cX4_putInOrder 79 = .ok (.iadd, 1) := by decide +kernel
theorem dX4_putInOrder_80 : decode cX4_putInOrder 80 = .ok (.iaload, 1) := by decide +kernel
theorem dX4_putInOrder_81 : decode cX4_putInOrder 81 = .ok (.iadd, 1) := by decide +kernel
theorem dX4_putInOrder_82 : decode cX4_putInOrder 82 = .ok (.invokevirtual 133, 3) := by decide +kernel
theorem dX4_putInOrder_85 : decode cX4_putInOrder 85 = .ok (.istore 8, 2) := by decide +kernel
theorem dX4_putInOrder_87 : decode cX4_putInOrder 87 = .ok (.iload_n 3, 1) := by decide +kernel
theorem dX4_putInOrder_88 : decode cX4_putInOrder 88 = .ok (.iconst 1, 1) := by decide +kernel
theorem dX4_putInOrder_89 : decode cX4_putInOrder 89 = .ok (.iload 7, 2) := by decide +kernel
theorem dX4_putInOrder_91 : decode cX4_putInOrder 91 = .ok (.ishl, 1) := by decide +kernel
theorem dX4_putInOrder_92 : decode cX4_putInOrder 92 = .ok (.ixor, 1) := by decide +kernel
theorem dX4_putInOrder_93 : decode cX4_putInOrder 93 = .ok (.istore 9, 2) := by decide +kernel
theorem dX4_putInOrder_95 : decode cX4_putInOrder 95 = .ok (.iload 8, 2) := by decide +kernel
theorem dX4_putInOrder_97 : decode cX4_putInOrder 97 = .ok (.aload_n 0, 1) := by decide +kernel
theorem dX4_putInOrder_98 : decode cX4_putInOrder 98 = .ok (.getfield 40, 3) := by decide +kernel
theorem dX4_putInOrder_101 : decode cX4_putInOrder 101 = .ok (.iload 9, 2) := by decide +kernel
theorem dX4_putInOrder_103 : decode cX4_putInOrder 103 = .ok (.bipush 10, 2) := by decide +kernel
theorem dX4_putInOrder_105 : decode cX4_putInOrder 105 = .ok (.imul, 1) := by decide +kernel
theorem dX4_putInOrder_106 : decode cX4_putInOrder 106 = .ok (.iload 7, 2) := by decide +kernel
theorem dX4_putInOrder_108 : decode cX4_putInOrder 108 = .ok (.iadd, 1) := by decide +kernel
theorem dX4_putInOrder_109 : decode cX4_putInOrder 109 = .ok (.iaload, 1) := by decide +kernel
theorem dX4_putInOrder_110 : decode cX4_putInOrder 110 = .ok (.if_icmp .gt 48, 3) := by decide +kernel
theorem dX4_putInOrder_113 : decode cX4_putInOrder 113 = .ok (.aload_n 0, 1) := by decide +kernel
theorem dX4_putInOrder_114 : decode cX4_putInOrder 114 = .ok (.getfield 11, 3) := by decide +kernel
theorem dX4_putInOrder_117 : decode cX4_putInOrder 117 = .ok (.aload_n 0, 1) := by decide +kernel
theorem dX4_putInOrder_118 : decode cX4_putInOrder 118 = .ok (.getfield 154, 3) := by decide +kernel
theorem dX4_putInOrder_121 : decode cX4_putInOrder 121 = .ok (.aload_n 0, 1) := by decide +kernel
theorem dX4_putInOrder_122 : decode cX4_putInOrder 122 = .ok (.getfield 22, 3) := by decide +kernel
theorem dX4_putInOrder_125 : decode cX4_putInOrder 125 = .ok (.iload 7, 2) := by decide +kernel
theorem dX4_putInOrder_127 : decode cX4_putInOrder 127 = .ok (.iaload, 1) := by decide +kernel
theorem dX4_putInOrder_128 : decode cX4_putInOrder 128 = .ok (.iastore, 1) := by decide +kernel
theorem dX4_putInOrder_129 : decode cX4_putInOrder 129 = .ok (.aload_n 0, 1) := by decide +kernel
theorem dX4_putInOrder_130 : decode cX4_putInOrder 130 = .ok (.dup, 1) := by decide +kernel
theorem dX4_putInOrder_131 : decode cX4_putInOrder 131 = .ok (.getfield 154, 3) := by decide +kernel
theorem dX4_putInOrder_134 : decode cX4_putInOrder 134 = .ok (.iconst 1, 1) := by decide +kernel
theorem dX4_putInOrder_135 : decode cX4_putInOrder 135 = .ok (.iadd, 1) := by decide +kernel
theorem dX4_putInOrder_136 : decode cX4_putInOrder 136 = .ok (.putfield 154, 3) := by decide +kernel
theorem dX4_putInOrder_139 : decode cX4_putInOrder 139 = .ok (.iload 9, 2) := by decide +kernel
theorem dX4_putInOrder_141 : decode cX4_putInOrder 141 = .ok (.istore_n 3, 1) := by decide +kernel
theorem dX4_putInOrder_142 : decode cX4_putInOrder 142 = .ok (.aload_n 0, 1) := by decide +kernel
theorem dX4_putInOrder_143 : decode cX4_putInOrder 143 = .ok (.getfield 22, 3) := by decide +kernel
theorem dX4_putInOrder_146 : decode cX4_putInOrder 146 = .ok (.iload 7, 2) := by decide +kernel
theorem dX4_putInOrder_148 : decode cX4_putInOrder 148 = .ok (.iaload, 1) := by decide +kernel
theorem dX4_putInOrder_149 : decode cX4_putInOrder 149 = .ok (.istore 4, 2) := by decide +kernel
theorem dX4_putInOrder_151 : decode cX4_putInOrder 151 = .ok (.iload 8, 2) := by decide +kernel
theorem dX4_putInOrder_153 : decode cX4_putInOrder 153 = .ok (.istore 5, 2) := by decide +kernel
theorem dX4_putInOrder_155 : decode cX4_putInOrder 155 = .ok (.goto 9, 3) := by decide +kernel
theorem dX4_putInOrder_158 : decode cX4_putInOrder 158 = .ok (.iinc 7 1, 3) := by decide +kernel
theorem dX4_putInOrder_161 : decode cX4_putInOrder 161 = .ok (.goto (-129), 3) := by decide +kernel
theorem dX4_putInOrder_164 : decode cX4_putInOrder 164 = .ok (.iinc 6 1, 3) := by decide +kernel
theorem dX4_putInOrder_167 : decode cX4_putInOrder 167 = .ok (.goto (-151), 3) := by decide +kernel
theorem dX4_putInOrder_170 : decode cX4_putInOrder 170 = .ok (.return_, 1) := by decide +kernel
theorem dX4_canWalk_0 : decode cX4_canWalk 0 = .ok (.iconst 0, 1) := by decide +kernel
theorem dX4_canWalk_1 : decode cX4_canWalk 1 = .ok (.istore 5, 2) := by decide +kernel
theorem dX4_canWalk_3 : decode cX4_canWalk 3 = .ok (.iload_n 2, 1) := by decide +kernel
theorem dX4_canWalk_4 : decode cX4_canWalk 4 = .ok (.istore 6, 2) := by decide +kernel
theorem dX4_canWalk_6 : decode cX4_canWalk 6 = .ok (.iconst 0, 1) := by decide +kernel
theorem dX4_canWalk_7 : decode cX4_canWalk 7 = .ok (.istore 7, 2) := by decide +kernel
theorem dX4_canWalk_9 : decode cX4_canWalk 9 = .ok (.iconst 0, 1) := by decide +kernel
theorem dX4_canWalk_10 : decode cX4_canWalk 10 = .ok (.istore 8, 2) := by decide +kernel
theorem dX4_canWalk_12 : decode cX4_canWalk 12 = .ok (.iload 8, 2) := by decide +kernel
theorem dX4_canWalk_14 : decode cX4_canWalk 14 = .ok (.aload 4, 2) := by decide +kernel
theorem dX4_canWalk_16 : decode cX4_canWalk 16 = .ok (.getfield 157, 3) := by decide +kernel
theorem dX4_canWalk_19 : decode cX4_canWalk 19 = .ok (.if_icmp .ge 120, 3) := by decide +kernel
theorem dX4_canWalk_22 : decode cX4_canWalk 22 = .ok (.aload 4, 2) := by decide +kernel
theorem dX4_canWalk_24 : decode cX4_canWalk 24 = .ok (.iload 8, 2) := by decide +kernel
theorem dX4_canWalk_26 : decode cX4_canWalk 26 = .ok (.invokevirtual 162, 3) := by decide +kernel
theorem dX4_canWalk_29 : decode cX4_canWalk 29 = .ok (.istore 9, 2) := by decide +kernel
theorem dX4_canWalk_31 : decode cX4_canWalk 31 = .ok (.aload_n 1, 1) := by decide +kernel
theorem dX4_canWalk_32 : decode cX4_canWalk 32 = .ok (.getfield 56, 3) := by decide +kernel
theorem dX4_canWalk_35 : decode cX4_canWalk 35 = .ok (.iload 9, 2) := by decide +kernel
theorem dX4_canWalk_37 : decode cX4_canWalk 37 = .ok (.invokevirtual 165, 3) := by decide +kernel
theorem dX4_canWalk_40 : decode cX4_canWalk 40 = .ok (.ifCond .eq 38, 3) := by decide +kernel
theorem dX4_canWalk_43 : decode cX4_canWalk 43 = .ok (.iload 5, 2) := by decide +kernel
theorem dX4_canWalk_45 : decode cX4_canWalk 45 = .ok (.iload 9, 2) := by decide +kernel
theorem dX4_canWalk_47 : decode cX4_canWalk 47 = .ok (.ishr, 1) := by decide +kernel
theorem dX4_canWalk_48 : decode cX4_canWalk 48 = .ok (.iconst 1, 1) := by decide +kernel
theorem dX4_canWalk_49 : decode cX4_canWalk 49 = .ok (.iand, 1) := by decide +kernel
theorem dX4_canWalk_50 : decode cX4_canWalk 50 = .ok (.iconst 1, 1) := by decide +kernel
theorem dX4_canWalk_51 : decode cX4_canWalk 51 = .ok (.if_icmp .eq 27, 3) := by decide +kernel
theorem dX4_canWalk_54 : decode cX4_canWalk 54 = .ok (.aload_n 1, 1) := by decide +kernel
theorem dX4_canWalk_55 : decode cX4_canWalk 55 = .ok (.getfield 67, 3) := by decide +kernel
theorem dX4_canWalk_58 : decode cX4_canWalk 58 = .ok (.iload_n 2, 1) := by decide +kernel
theorem dX4_canWalk_59 : decode cX4_canWalk 59 = .ok (.iload 9, 2) := by decide +kernel
theorem dX4_canWalk_61 : decode cX4_canWalk 61 = .ok (.invokevirtual 71, 3) := by decide +kernel
theorem dX4_canWalk_64 : decode cX4_canWalk 64 = .ok (.ifCond .eq 14, 3) := by decide +kernel
theorem dX4_canWalk_67 : decode cX4_canWalk 67 = .ok (.aload_n 1, 1) := by decide +kernel
theorem dX4_canWalk_68 : decode cX4_canWalk 68 = .ok (.iload_n 2, 1) := by decide +kernel
theorem dX4_canWalk_69 : decode cX4_canWalk 69 = .ok (.iload 9, 2) := by decide +kernel
theorem dX4_canWalk_71 : decode cX4_canWalk 71 = .ok (.iload_n 3, 1) := by decide +kernel
theorem dX4_canWalk_72 : decode cX4_canWalk 72 = .ok (.invokestatic 120, 3) := by decide +kernel
theorem dX4_canWalk_75 : decode cX4_canWalk 75 = .ok (.ifCond .ne 5, 3) := by decide +kernel
theorem dX4_canWalk_78 : decode cX4_canWalk 78 = .ok (.iconst 0, 1) := by decide +kernel
theorem dX4_canWalk_79 : decode cX4_canWalk 79 = .ok (.ireturn, 1) := by decide +kernel
theorem dX4_canWalk_80 : decode cX4_canWalk 80 = .ok (.aload_n 0, 1) := by decide +kernel
theorem dX4_canWalk_81 : decode cX4_canWalk 81 = .ok (.aload_n 1, 1) := by decide +kernel
theorem dX4_canWalk_82 : decode cX4_canWalk 82 = .ok (.iload_n 2, 1) := by decide +kernel
theorem dX4_canWalk_83 : decode cX4_canWalk 83 = .ok (.iload 9, 2) := by decide +kernel
theorem dX4_canWalk_85 : decode cX4_canWalk 85 = .ok (.invokevirtual 101, 3) := by decide +kernel
theorem dX4_canWalk_88 : decode cX4_canWalk 88 = .ok (.aload_n 0, 1) := by decide +kernel
theorem dX4_canWalk_89 : decode cX4_canWalk 89 = .ok (.iload 9, 2) := by decide +kernel
theorem dX4_canWalk_91 : decode cX4_canWalk 91 = .ok (.iload 7, 2) := by decide +kernel
theorem dX4_canWalk_93 : decode cX4_canWalk 93 = .ok (.aload_n 1, 1) := by decide +kernel
theorem dX4_canWalk_94 : decode cX4_canWalk 94 = .ok (.getfield 56, 3) := by decide +kernel
theorem dX4_canWalk_97 : decode cX4_canWalk 97 = .ok (.iload 6, 2) := by decide +kernel
theorem dX4_canWalk_99 : decode cX4_canWalk 99 = .ok (.iload 9, 2) := by decide +kernel
theorem dX4_canWalk_101 : decode cX4_canWalk 101 = .ok (.invokevirtual 105, 3) := by decide +kernel
theorem dX4_canWalk_104 : decode cX4_canWalk 104 = .ok (.iadd, 1) := by decide +kernel
theorem dX4_canWalk_105 : decode cX4_canWalk 105 = .ok (.invokevirtual 133, 3) := by decide +kernel
theorem dX4_canWalk_108 : decode cX4_canWalk 108 = .ok (.istore 7, 2) := by decide +kernel
theorem dX4_canWalk_110 : decode cX4_canWalk 110 = .ok (.iload 7, 2) := by decide +kernel
theorem dX4_canWalk_112 : decode cX4_canWalk 112 = .ok (.sipush 1000, 3) := by decide +kernel
theorem dX4_canWalk_115 : decode cX4_canWalk 115 = .ok (.if_icmp .lt 5, 3) := by decide +kernel
theorem dX4_canWalk_118 : decode cX4_canWalk 118 = .ok (.iconst 0, 1) := by decide +kernel
theorem dX4_canWalk_119 : decode cX4_canWalk 119 = .ok (.ireturn, 1) := by decide +kernel
theorem dX4_canWalk_120 : decode cX4_canWalk 120 = .ok (.iload 5, 2) := by decide +kernel
theorem dX4_canWalk_122 : decode cX4_canWalk 122 = .ok (.iconst 1, 1) := by decide +kernel
theorem dX4_canWalk_123 : decode cX4_canWalk 123 = .ok (.iload 9, 2) := by decide +kernel
theorem dX4_canWalk_125 : decode cX4_canWalk 125 = .ok (.ishl, 1) := by decide +kernel
theorem dX4_canWalk_126 : decode cX4_canWalk 126 = .ok (.ior, 1) := by decide +kernel
theorem dX4_canWalk_127 : decode cX4_canWalk 127 = .ok (.istore 5, 2) := by decide +kernel
theorem dX4_canWalk_129 : decode cX4_canWalk 129 = .ok (.iload 9, 2) := by decide +kernel
theorem dX4_canWalk_131 : decode cX4_canWalk 131 = .ok (.istore 6, 2) := by decide +kernel
theorem dX4_canWalk_133 : decode cX4_canWalk 133 = .ok (.iinc 8 1, 3) := by decide +kernel
theorem dX4_canWalk_136 : decode cX4_canWalk 136 = .ok (.goto (-124), 3) := by decide +kernel
theorem dX4_canWalk_139 : decode cX4_canWalk 139 = .ok (.iconst 1, 1) := by decide +kernel
theorem dX4_canWalk_140 : decode cX4_canWalk 140 = .ok (.ireturn, 1) := by decide +kernel
theorem dX4_fewestDays_0 : decode cX4_fewestDays 0 = .ok (.aload_n 0, 1) := by decide +kernel
theorem dX4_fewestDays_1 : decode cX4_fewestDays 1 = .ok (.iconst 0, 1) := by decide +kernel
theorem dX4_fewestDays_2 : decode cX4_fewestDays 2 = .ok (.putfield 49, 3) := by decide +kernel
theorem dX4_fewestDays_5 : decode cX4_fewestDays 5 = .ok (.aload_n 0, 1) := by decide +kernel
theorem dX4_fewestDays_6 : decode cX4_fewestDays 6 = .ok (.iload_n 2, 1) := by decide +kernel
theorem dX4_fewestDays_7 : decode cX4_fewestDays 7 = .ok (.putfield 15, 3) := by decide +kernel
theorem dX4_fewestDays_10 : decode cX4_fewestDays 10 = .ok (.aload_n 0, 1) := by decide +kernel
theorem dX4_fewestDays_11 : decode cX4_fewestDays 11 = .ok (.aload_n 1, 1) := by decide +kernel
theorem dX4_fewestDays_12 : decode cX4_fewestDays 12 = .ok (.iload_n 2, 1) := by decide +kernel
theorem dX4_fewestDays_13 : decode cX4_fewestDays 13 = .ok (.invokevirtual 169, 3) := by decide +kernel
theorem dX4_fewestDays_16 : decode cX4_fewestDays 16 = .ok (.aload_n 0, 1) := by decide +kernel
