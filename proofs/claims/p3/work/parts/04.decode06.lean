theorem dX4_putInOrder_63 : decode cX4_putInOrder 63 = .ok (.aload_n 0, 1) := by decide +kernel
theorem dX4_putInOrder_64 : decode cX4_putInOrder 64 = .ok (.getfield 37, 3) := by decide +kernel
theorem dX4_putInOrder_67 : decode cX4_putInOrder 67 = .ok (.iload 4, 2) := by decide +kernel
theorem dX4_putInOrder_69 : decode cX4_putInOrder 69 = .ok (.bipush 16, 2) := by decide +kernel
theorem dX4_putInOrder_71 : decode cX4_putInOrder 71 = .ok (.imul, 1) := by decide +kernel
theorem dX4_putInOrder_72 : decode cX4_putInOrder 72 = .ok (.aload_n 0, 1) := by decide +kernel
theorem dX4_putInOrder_73 : decode cX4_putInOrder 73 = .ok (.getfield 22, 3) := by decide +kernel
theorem dX4_putInOrder_76 : decode cX4_putInOrder 76 = .ok (.iload 7, 2) := by decide +kernel
theorem dX4_putInOrder_78 : decode cX4_putInOrder 78 = .ok (.iaload, 1) := by decide +kernel
theorem dX4_putInOrder_79 : decode cX4_putInOrder 79 = .ok (.iadd, 1) := by decide +kernel
theorem dX4_putInOrder_80 : decode cX4_putInOrder 80 = .ok (.iaload, 1) := by decide +kernel
theorem dX4_putInOrder_81 : decode cX4_putInOrder 81 = .ok (.iadd, 1) := by decide +kernel
theorem dX4_putInOrder_82 : decode cX4_putInOrder 82 = .ok (.invokevirtual 133, 3) := by decide +kernel
theorem dX4_putInOrder_85 : decode cX4_putInOrder 85 = .ok (.istore 8, 2) := by decide +kernel
theorem dX4_putInOrder_87 : decode cX4_putInOrder 87 = .ok (.iload_n 3, 1) := by decide +kernel
theorem dX4_putInOrder_88 : decode cX4_putInOrder 88 = .ok (.iconst 1, 1) := by decide +kernel
theorem dX4_putInOrder_89 : decode cX4_putInOrder 89 = .ok (.iload 7, 2) := by decide +kernel
theorem dX4_putInOrder_91 : decode cX4_putInOrder 91 = .ok (.ishl, 1) := by decide +kernel
theorem dX4_putInOrder_92 : decode cX4_putInOrder 92 = .ok (.ixor, 1) := by decide +kernel
theorem dX4_putInOrder_93 : decode cX4_putInOrder 93 = .ok (.istore 9, 2) := by decide +kernel
theorem dX4_putInOrder_95 : decode cX4_putInOrder 95 = .ok (.iload 8, 2) := by decide +kernel
theorem dX4_putInOrder_97 : decode cX4_putInOrder 97 = .ok (.aload_n 0, 1) := by decide +kernel
theorem dX4_putInOrder_98 : decode cX4_putInOrder 98 = .ok (.getfield 40, 3) := by decide +kernel
theorem dX4_putInOrder_101 : decode cX4_putInOrder 101 = .ok (.iload 9, 2) := by decide +kernel
theorem dX4_putInOrder_103 : decode cX4_putInOrder 103 = .ok (.bipush 10, 2) := by decide +kernel
theorem dX4_putInOrder_105 : decode cX4_putInOrder 105 = .ok (.imul, 1) := by decide +kernel
theorem dX4_putInOrder_106 : decode cX4_putInOrder 106 = .ok (.iload 7, 2) := by decide +kernel
theorem dX4_putInOrder_108 : decode cX4_putInOrder 108 = .ok (.iadd, 1) := by decide +kernel
theorem dX4_putInOrder_109 : decode cX4_putInOrder 109 = .ok (.iaload, 1) := by decide +kernel
theorem dX4_putInOrder_110 : decode cX4_putInOrder 110 = .ok (.if_icmp .gt 48, 3) := by decide +kernel
theorem dX4_putInOrder_113 : decode cX4_putInOrder 113 = .ok (.aload_n 0, 1) := by decide +kernel
theorem dX4_putInOrder_114 : decode cX4_putInOrder 114 = .ok (.getfield 11, 3) := by decide +kernel
theorem dX4_putInOrder_117 : decode cX4_putInOrder 117 = .ok (.aload_n 0, 1) := by decide +kernel
theorem dX4_putInOrder_118 : decode cX4_putInOrder 118 = .ok (.getfield 154, 3) := by decide +kernel
theorem dX4_putInOrder_121 : decode cX4_putInOrder 121 = .ok (.aload_n 0, 1) := by decide +kernel
theorem dX4_putInOrder_122 : decode cX4_putInOrder 122 = .ok (.getfield 22, 3) := by decide +kernel
theorem dX4_putInOrder_125 : decode cX4_putInOrder 125 = .ok (.iload 7, 2) := by decide +kernel
theorem dX4_putInOrder_127 : decode cX4_putInOrder 127 = .ok (.iaload, 1) := by decide +kernel
theorem dX4_putInOrder_128 : decode cX4_putInOrder 128 = .ok (.iastore, 1) := by decide +kernel
theorem dX4_putInOrder_129 : decode cX4_putInOrder 129 = .ok (.aload_n 0, 1) := by decide +kernel
theorem dX4_putInOrder_130 : decode cX4_putInOrder 130 = .ok (.dup, 1) := by decide +kernel
theorem dX4_putInOrder_131 : decode cX4_putInOrder 131 = .ok (.getfield 154, 3) := by decide +kernel
theorem dX4_putInOrder_134 : decode cX4_putInOrder 134 = .ok (.iconst 1, 1) := by decide +kernel
theorem dX4_putInOrder_135 : decode cX4_putInOrder 135 = .ok (.iadd, 1) := by decide +kernel
theorem dX4_putInOrder_136 : decode cX4_putInOrder 136 = .ok (.putfield 154, 3) := by decide +kernel
theorem dX4_putInOrder_139 : decode cX4_putInOrder 139 = .ok (.iload 9, 2) := by decide +kernel
theorem dX4_putInOrder_141 : decode cX4_putInOrder 141 = .ok (.istore_n 3, 1) := by decide +kernel
theorem dX4_putInOrder_142 : decode cX4_putInOrder 142 = .ok (.aload_n 0, 1) := by decide +kernel
theorem dX4_putInOrder_143 : decode cX4_putInOrder 143 = .ok (.getfield 22, 3) := by decide +kernel
theorem dX4_putInOrder_146 : decode cX4_putInOrder 146 = .ok (.iload 7, 2) := by decide +kernel
theorem dX4_putInOrder_148 : decode cX4_putInOrder 148 = .ok (.iaload, 1) := by decide +kernel
theorem dX4_putInOrder_149 : decode cX4_putInOrder 149 = .ok (.istore 4, 2) := by decide +kernel
theorem dX4_putInOrder_151 : decode cX4_putInOrder 151 = .ok (.iload 8, 2) := by decide +kernel
theorem dX4_putInOrder_153 : decode cX4_putInOrder 153 = .ok (.istore 5, 2) := by decide +kernel
theorem dX4_putInOrder_155 : decode cX4_putInOrder 155 = .ok (.goto 9, 3) := by decide +kernel
theorem dX4_putInOrder_158 : decode cX4_putInOrder 158 = .ok (.iinc 7 1, 3) := by decide +kernel
theorem dX4_putInOrder_161 : decode cX4_putInOrder 161 = .ok (.goto (-129), 3) := by decide +kernel
theorem dX4_putInOrder_164 : decode cX4_putInOrder 164 = .ok (.iinc 6 1, 3) := by decide +kernel
theorem dX4_putInOrder_167 : decode cX4_putInOrder 167 = .ok (.goto (-151), 3) := by decide +kernel
theorem dX4_putInOrder_170 : decode cX4_putInOrder 170 = .ok (.return_, 1) := by decide +kernel
theorem dX4_canWalk_0 : decode cX4_canWalk 0 = .ok (.iconst 0, 1) := by decide +kernel
theorem dX4_canWalk_1 : decode cX4_canWalk 1 = .ok (.istore 5, 2) := by decide +kernel
theorem dX4_canWalk_3 : decode cX4_canWalk 3 = .ok (.iload_n 2, 1) := by decide +kernel
theorem dX4_canWalk_4 : decode cX4_canWalk 4 = .ok (.istore 6, 2) := by decide +kernel
theorem dX4_canWalk_6 : decode cX4_canWalk 6 = .ok (.iconst 0, 1) := by decide +kernel
theorem dX4_canWalk_7 : decode cX4_canWalk 7 = .ok (.istore 7, 2) := by decide +kernel
theorem dX4_canWalk_9 : decode cX4_canWalk 9 = .ok (.iconst 0, 1) := by decide +kernel
theorem dX4_canWalk_10 : decode cX4_canWalk 10 = .ok (.istore 8, 2) := by decide +kernel
theorem dX4_canWalk_12 : decode cX4_canWalk 12 = .ok (.iload 8, 2) := by decide +kernel
theorem dX4_canWalk_14 : decode cX4_canWalk 14 = .ok (.aload 4, 2) := by decide +kernel
theorem dX4_canWalk_16 : decode cX4_canWalk 16 = .ok (.getfield 157, 3) := by decide +kernel
theorem dX4_canWalk_19 : decode cX4_canWalk 19 = .ok (.if_icmp .ge 120, 3) := by decide +kernel
theorem dX4_canWalk_22 : decode cX4_canWalk 22 = .ok (.aload 4, 2) := by decide +kernel
theorem dX4_canWalk_24 : decode cX4_canWalk 24 = .ok (.iload 8, 2) := by decide +kernel
theorem dX4_canWalk_26 : decode cX4_canWalk 26 = .ok (.invokevirtual 162, 3) := by decide +kernel
theorem dX4_canWalk_29 : decode cX4_canWalk 29 = .ok (.istore 9, 2) := by decide +kernel
theorem dX4_canWalk_31 : decode cX4_canWalk 31 = .ok (.aload_n 1, 1) := by decide +kernel
theorem dX4_canWalk_32 : decode cX4_canWalk 32 = .ok (.getfield 56, 3) := by decide +kernel
theorem dX4_canWalk_35 : decode cX4_canWalk 35 = .ok (.iload 9, 2) := by decide +kernel
theorem dX4_canWalk_37 : decode cX4_canWalk 37 = .ok (.invokevirtual 165, 3) := by decide +kernel
theorem dX4_canWalk_40 : decode cX4_canWalk 40 = .ok (.ifCond .eq 38, 3) := by decide +kernel
theorem dX4_canWalk_43 : decode cX4_canWalk 43 = .ok (.iload 5, 2) := by decide +kernel
theorem dX4_canWalk_45 : decode cX4_canWalk 45 = .ok (.iload 9, 2) := by decide +kernel
theorem dX4_canWalk_47 : decode cX4_canWalk 47 = .ok (.ishr, 1) := by decide +kernel
theorem dX4_canWalk_48 : decode cX4_canWalk 48 = .ok (.iconst 1, 1) := by decide +kernel
theorem dX4_canWalk_49 : decode cX4_canWalk 49 = .ok (.iand, 1) := by decide +kernel
theorem dX4_canWalk_50 : decode cX4_canWalk 50 = .ok (.iconst 1, 1) := by decide +kernel
theorem dX4_canWalk_51 : decode cX4_canWalk 51 = .ok (.if_icmp .eq 27, 3) := by decide +kernel
theorem dX4_canWalk_54 : decode cX4_canWalk 54 = .ok (.aload_n 1, 1) := by decide +kernel
theorem dX4_canWalk_55 : decode cX4_canWalk 55 = .ok (.getfield 67, 3) := by decide +kernel
theorem dX4_canWalk_58 : decode cX4_canWalk 58 = .ok (.iload_n 2, 1) := by decide +kernel
theorem dX4_canWalk_59 : decode cX4_canWalk 59 = .ok (.iload 9, 2) := by decide +kernel
theorem dX4_canWalk_61 : decode cX4_canWalk 61 = .ok (.invokevirtual 71, 3) := by decide +kernel
theorem dX4_canWalk_64 : decode cX4_canWalk 64 = .ok (.ifCond .eq 14, 3) := by decide +kernel
theorem dX4_canWalk_67 : decode cX4_canWalk 67 = .ok (.aload_n 1, 1) := by decide +kernel
theorem dX4_canWalk_68 : decode cX4_canWalk 68 = .ok (.iload_n 2, 1) := by decide +kernel
theorem dX4_canWalk_69 : decode cX4_canWalk 69 = .ok (.iload 9, 2) := by decide +kernel
theorem dX4_canWalk_71 : decode cX4_canWalk 71 = .ok (.iload_n 3, 1) := by decide +kernel
theorem dX4_canWalk_72 : decode cX4_canWalk 72 = .ok (.invokestatic 120, 3) := by decide +kernel
theorem dX4_canWalk_75 : decode cX4_canWalk 75 = .ok (.ifCond .ne 5, 3) := by decide +kernel
theorem dX4_canWalk_78 : decode cX4_canWalk 78 = .ok (.iconst 0, 1) := by decide +kernel
theorem dX4_canWalk_79 : decode cX4_canWalk 79 = .ok (.ireturn, 1) := by decide +kernel
theorem dX4_canWalk_80 : decode cX4_canWalk 80 = .ok (.aload_n 0, 1) := by decide +kernel
theorem dX4_canWalk_81 : decode cX4_canWalk 81 = .ok (.aload_n 1, 1) := by decide +kernel
theorem dX4_canWalk_82 : decode cX4_canWalk 82 = .ok (.iload_n 2, 1) := by decide +kernel
theorem dX4_canWalk_83 : decode cX4_canWalk 83 = .ok (.iload 9, 2) := by decide +kernel
theorem dX4_canWalk_85 : decode cX4_canWalk 85 = .ok (.invokevirtual 101, 3) := by decide +kernel
theorem dX4_canWalk_88 : decode cX4_canWalk 88 = .ok (.aload_n 0, 1) := by decide +kernel
theorem dX4_canWalk_89 : decode cX4_canWalk 89 = .ok (.iload 9, 2) := by decide +kernel
theorem dX4_canWalk_91 : decode cX4_canWalk 91 = .ok (.iload 7, 2) := by decide +kernel
theorem dX4_canWalk_93 : decode cX4_canWalk 93 = .ok (.aload_n 1, 1) := by decide +kernel
theorem dX4_canWalk_94 : decode cX4_canWalk 94 = .ok (.getfield 56, 3) := by decide +kernel
theorem dX4_canWalk_97 : decode cX4_canWalk 97 = .ok (.iload 6, 2) := by decide +kernel
theorem dX4_canWalk_99 : decode cX4_canWalk 99 = .ok (.iload 9, 2) := by decide +kernel
theorem dX4_canWalk_101 : decode cX4_canWalk 101 = .ok (.invokevirtual 105, 3) := by decide +kernel
theorem dX4_canWalk_104 : decode cX4_canWalk 104 = .ok (.iadd, 1) := by decide +kernel
theorem dX4_canWalk_105 : decode cX4_canWalk 105 = .ok (.invokevirtual 133, 3) := by decide +kernel
theorem dX4_canWalk_108 : decode cX4_canWalk 108 = .ok (.istore 7, 2) := by decide +kernel
theorem dX4_canWalk_110 : decode cX4_canWalk 110 = .ok (.iload 7, 2) := by decide +kernel
theorem dX4_canWalk_112 : decode cX4_canWalk 112 = .ok (.sipush 1000, 3) := by decide +kernel
theorem dX4_canWalk_115 : decode cX4_canWalk 115 = .ok (.if_icmp .lt 5, 3) := by decide +kernel
theorem dX4_canWalk_118 : decode cX4_canWalk 118 = .ok (.iconst 0, 1) := by decide +kernel
theorem dX4_canWalk_119 : decode cX4_canWalk 119 = .ok (.ireturn, 1) := by decide +kernel
theorem dX4_canWalk_120 : decode cX4_canWalk 120 = .ok (.iload 5, 2) := by decide +kernel
theorem dX4_canWalk_122 : decode cX4_canWalk 122 = .ok (.iconst 1, 1) := by decide +kernel
theorem dX4_canWalk_123 : decode cX4_canWalk 123 = .ok (.iload 9, 2) := by decide +kernel
theorem dX4_canWalk_125 : decode cX4_canWalk 125 = .ok (.ishl, 1) := by decide +kernel
theorem dX4_canWalk_126 : decode cX4_canWalk 126 = .ok (.ior, 1) := by decide +kernel
theorem dX4_canWalk_127 : decode cX4_canWalk 127 = .ok (.istore 5, 2) := by decide +kernel
theorem dX4_canWalk_129 : decode cX4_canWalk 129 = .ok (.iload 9, 2) := by decide +kernel
theorem dX4_canWalk_131 : decode cX4_canWalk 131 = .ok (.istore 6, 2) := by decide +kernel
theorem dX4_canWalk_133 : decode cX4_canWalk 133 = .ok (.iinc 8 1, 3) := by decide +kernel
theorem dX4_canWalk_136 : decode cX4_canWalk 136 = .ok (.goto (-124), 3) := by decide +kernel
theorem dX4_canWalk_139 : decode cX4_canWalk 139 = .ok (.iconst 1, 1) := by decide +kernel
theorem dX4_canWalk_140 : decode cX4_canWalk 140 = .ok (.ireturn, 1) := by decide +kernel
theorem dX4_fewestDays_0 : decode cX4_fewestDays 0 = .ok (.aload_n 0, 1) := by decide +kernel
theorem dX4_fewestDays_1 : decode cX4_fewestDays 1 = .ok (.iconst 0, 1) := by decide +kernel
theorem dX4_fewestDays_2 : decode cX4_fewestDays 2 = .ok (.putfield 49, 3) := by decide +kernel
theorem dX4_fewestDays_5 : decode cX4_fewestDays 5 = .ok (.aload_n 0, 1) := by decide +kernel
theorem dX4_fewestDays_6 : decode cX4_fewestDays 6 = .ok (.iload_n 2, 1) := by decide +kernel
theorem dX4_fewestDays_7 : decode cX4_fewestDays 7 = .ok (.putfield 15, 3) := by decide +kernel
theorem dX4_fewestDays_10 : decode cX4_fewestDays 10 = .ok (.aload_n 0, 1) := by decide +kernel
theorem dX4_fewestDays_11 : decode cX4_fewestDays 11 = .ok (.aload_n 1, 1) := by decide +kernel
theorem dX4_fewestDays_12 : decode cX4_fewestDays 12 = .ok (.iload_n 2, 1) := by decide +kernel
theorem dX4_fewestDays_13 : decode cX4_fewestDays 13 = .ok (.invokevirtual 169, 3) := by decide +kernel
theorem dX4_fewestDays_16 : decode cX4_fewestDays 16 = .ok (.aload_n 0, 1) := by decide +kernel
theorem dX4_fewestDays_17 : decode cX4_fewestDays 17 = .ok (.aload_n 1, 1) := by decide +kernel
theorem dX4_fewestDays_18 : decode cX4_fewestDays 18 = .ok (.iload_n 2, 1) := by decide +kernel
theorem dX4_fewestDays_19 : decode cX4_fewestDays 19 = .ok (.invokevirtual 77, 3) := by decide +kernel
theorem dX4_fewestDays_22 : decode cX4_fewestDays 22 = .ok (.iconst 1, 1) := by decide +kernel
theorem dX4_fewestDays_23 : decode cX4_fewestDays 23 = .ok (.aload_n 0, 1) := by decide +kernel
theorem dX4_fewestDays_24 : decode cX4_fewestDays 24 = .ok (.getfield 53, 3) := by decide +kernel
theorem dX4_fewestDays_27 : decode cX4_fewestDays 27 = .ok (.ishl, 1) := by decide +kernel
theorem dX4_fewestDays_28 : decode cX4_fewestDays 28 = .ok (.iconst 1, 1) := by decide +kernel
theorem dX4_fewestDays_29 : decode cX4_fewestDays 29 = .ok (.isub, 1) := by decide +kernel
theorem dX4_fewestDays_30 : decode cX4_fewestDays 30 = .ok (.istore_n 3, 1) := by decide +kernel
theorem dX4_fewestDays_31 : decode cX4_fewestDays 31 = .ok (.iconst 1, 1) := by decide +kernel
theorem dX4_fewestDays_32 : decode cX4_fewestDays 32 = .ok (.istore 4, 2) := by decide +kernel
theorem dX4_fewestDays_34 : decode cX4_fewestDays 34 = .ok (.iload 4, 2) := by decide +kernel
theorem dX4_fewestDays_36 : decode cX4_fewestDays 36 = .ok (.iload_n 3, 1) := by decide +kernel
theorem dX4_fewestDays_37 : decode cX4_fewestDays 37 = .ok (.if_icmp .gt 19, 3) := by decide +kernel
theorem dX4_fewestDays_40 : decode cX4_fewestDays 40 = .ok (.aload_n 0, 1) := by decide +kernel
theorem dX4_fewestDays_41 : decode cX4_fewestDays 41 = .ok (.getfield 46, 3) := by decide +kernel
theorem dX4_fewestDays_44 : decode cX4_fewestDays 44 = .ok (.iload 4, 2) := by decide +kernel
theorem dX4_fewestDays_46 : decode cX4_fewestDays 46 = .ok (.sipush 1000, 3) := by decide +kernel
theorem dX4_fewestDays_49 : decode cX4_fewestDays 49 = .ok (.iastore, 1) := by decide +kernel
theorem dX4_fewestDays_50 : decode cX4_fewestDays 50 = .ok (.iinc 4 1, 3) := by decide +kernel
theorem dX4_fewestDays_53 : decode cX4_fewestDays 53 = .ok (.goto (-19), 3) := by decide +kernel
theorem dX4_fewestDays_56 : decode cX4_fewestDays 56 = .ok (.aload_n 0, 1) := by decide +kernel
theorem dX4_fewestDays_57 : decode cX4_fewestDays 57 = .ok (.getfield 46, 3) := by decide +kernel
theorem dX4_fewestDays_60 : decode cX4_fewestDays 60 = .ok (.iconst 0, 1) := by decide +kernel
theorem dX4_fewestDays_61 : decode cX4_fewestDays 61 = .ok (.iconst 0, 1) := by decide +kernel
theorem dX4_fewestDays_62 : decode cX4_fewestDays 62 = .ok (.iastore, 1) := by decide +kernel
theorem dX4_fewestDays_63 : decode cX4_fewestDays 63 = .ok (.aload_n 0, 1) := by decide +kernel
theorem dX4_fewestDays_64 : decode cX4_fewestDays 64 = .ok (.iload_n 2, 1) := by decide +kernel
theorem dX4_fewestDays_65 : decode cX4_fewestDays 65 = .ok (.iload_n 3, 1) := by decide +kernel
theorem dX4_fewestDays_66 : decode cX4_fewestDays 66 = .ok (.invokevirtual 85, 3) := by decide +kernel
theorem dX4_fewestDays_69 : decode cX4_fewestDays 69 = .ok (.aload_n 1, 1) := by decide +kernel
theorem dX4_fewestDays_70 : decode cX4_fewestDays 70 = .ok (.getfield 172, 3) := by decide +kernel
theorem dX4_fewestDays_73 : decode cX4_fewestDays 73 = .ok (.istore 4, 2) := by decide +kernel
theorem dX4_fewestDays_75 : decode cX4_fewestDays 75 = .ok (.iload 4, 2) := by decide +kernel
theorem dX4_fewestDays_77 : decode cX4_fewestDays 77 = .ok (.aload_n 1, 1) := by decide +kernel
theorem dX4_fewestDays_78 : decode cX4_fewestDays 78 = .ok (.getfield 172, 3) := by decide +kernel
theorem dX4_fewestDays_81 : decode cX4_fewestDays 81 = .ok (.bipush 7, 2) := by decide +kernel
theorem dX4_fewestDays_83 : decode cX4_fewestDays 83 = .ok (.iadd, 1) := by decide +kernel
theorem dX4_fewestDays_84 : decode cX4_fewestDays 84 = .ok (.if_icmp .ge 28, 3) := by decide +kernel
theorem dX4_fewestDays_87 : decode cX4_fewestDays 87 = .ok (.aload_n 0, 1) := by decide +kernel
theorem dX4_fewestDays_88 : decode cX4_fewestDays 88 = .ok (.iload_n 3, 1) := by decide +kernel
theorem dX4_fewestDays_89 : decode cX4_fewestDays 89 = .ok (.aload_n 0, 1) := by decide +kernel
theorem dX4_fewestDays_90 : decode cX4_fewestDays 90 = .ok (.aload_n 1, 1) := by decide +kernel
theorem dX4_fewestDays_91 : decode cX4_fewestDays 91 = .ok (.iload 4, 2) := by decide +kernel
theorem dX4_fewestDays_93 : decode cX4_fewestDays 93 = .ok (.invokevirtual 81, 3) := by decide +kernel
theorem dX4_fewestDays_96 : decode cX4_fewestDays 96 = .ok (.aload_n 0, 1) := by decide +kernel
theorem dX4_fewestDays_97 : decode cX4_fewestDays 97 = .ok (.iload 4, 2) := by decide +kernel
theorem dX4_fewestDays_99 : decode cX4_fewestDays 99 = .ok (.invokevirtual 175, 3) := by decide +kernel
theorem dX4_fewestDays_102 : decode cX4_fewestDays 102 = .ok (.iand, 1) := by decide +kernel
theorem dX4_fewestDays_103 : decode cX4_fewestDays 103 = .ok (.invokevirtual 178, 3) := by decide +kernel
theorem dX4_fewestDays_106 : decode cX4_fewestDays 106 = .ok (.iinc 4 1, 3) := by decide +kernel
theorem dX4_fewestDays_109 : decode cX4_fewestDays 109 = .ok (.goto (-34), 3) := by decide +kernel
theorem dX4_fewestDays_112 : decode cX4_fewestDays 112 = .ok (.aload_n 0, 1) := by decide +kernel
theorem dX4_fewestDays_113 : decode cX4_fewestDays 113 = .ok (.getfield 46, 3) := by decide +kernel
theorem dX4_fewestDays_116 : decode cX4_fewestDays 116 = .ok (.iload_n 3, 1) := by decide +kernel
theorem dX4_fewestDays_117 : decode cX4_fewestDays 117 = .ok (.iaload, 1) := by decide +kernel
theorem dX4_fewestDays_118 : decode cX4_fewestDays 118 = .ok (.sipush 1000, 3) := by decide +kernel
theorem dX4_fewestDays_121 : decode cX4_fewestDays 121 = .ok (.if_icmp .lt 7, 3) := by decide +kernel
theorem dX4_fewestDays_124 : decode cX4_fewestDays 124 = .ok (.iconst (-1), 1) := by decide +kernel
theorem dX4_fewestDays_125 : decode cX4_fewestDays 125 = .ok (.goto 9, 3) := by decide +kernel
theorem dX4_fewestDays_128 : decode cX4_fewestDays 128 = .ok (.aload_n 0, 1) := by decide +kernel
theorem dX4_fewestDays_129 : decode cX4_fewestDays 129 = .ok (.getfield 46, 3) := by decide +kernel
theorem dX4_fewestDays_132 : decode cX4_fewestDays 132 = .ok (.iload_n 3, 1) := by decide +kernel
theorem dX4_fewestDays_133 : decode cX4_fewestDays 133 = .ok (.iaload, 1) := by decide +kernel
theorem dX4_fewestDays_134 : decode cX4_fewestDays 134 = .ok (.ireturn, 1) := by decide +kernel
theorem dX4_gatherDeadlines_0 : decode cX4_gatherDeadlines 0 = .ok (.aload_n 0, 1) := by decide +kernel
theorem dX4_gatherDeadlines_1 : decode cX4_gatherDeadlines 1 = .ok (.iconst 0, 1) := by decide +kernel
theorem dX4_gatherDeadlines_2 : decode cX4_gatherDeadlines 2 = .ok (.putfield 53, 3) := by decide +kernel
theorem dX4_gatherDeadlines_5 : decode cX4_gatherDeadlines 5 = .ok (.iconst 0, 1) := by decide +kernel
theorem dX4_gatherDeadlines_6 : decode cX4_gatherDeadlines 6 = .ok (.istore_n 3, 1) := by decide +kernel
theorem dX4_gatherDeadlines_7 : decode cX4_gatherDeadlines 7 = .ok (.iload_n 3, 1) := by decide +kernel
theorem dX4_gatherDeadlines_8 : decode cX4_gatherDeadlines 8 = .ok (.bipush 10, 2) := by decide +kernel
theorem dX4_gatherDeadlines_10 : decode cX4_gatherDeadlines 10 = .ok (.if_icmp .ge 147, 3) := by decide +kernel
theorem dX4_gatherDeadlines_13 : decode cX4_gatherDeadlines 13 = .ok (.aload_n 1, 1) := by decide +kernel
theorem dX4_gatherDeadlines_14 : decode cX4_gatherDeadlines 14 = .ok (.getfield 67, 3) := by decide +kernel
theorem dX4_gatherDeadlines_17 : decode cX4_gatherDeadlines 17 = .ok (.iload_n 2, 1) := by decide +kernel
theorem dX4_gatherDeadlines_18 : decode cX4_gatherDeadlines 18 = .ok (.iload_n 3, 1) := by decide +kernel
theorem dX4_gatherDeadlines_19 : decode cX4_gatherDeadlines 19 = .ok (.invokevirtual 181, 3) := by decide +kernel
theorem dX4_gatherDeadlines_22 : decode cX4_gatherDeadlines 22 = .ok (.istore 4, 2) := by decide +kernel
theorem dX4_gatherDeadlines_24 : decode cX4_gatherDeadlines 24 = .ok (.iload 4, 2) := by decide +kernel
theorem dX4_gatherDeadlines_26 : decode cX4_gatherDeadlines 26 = .ok (.ifCond .ge 4, 3) := by decide +kernel
theorem dX4_gatherDeadlines_29 : decode cX4_gatherDeadlines 29 = .ok (.return_, 1) := by decide +kernel
theorem dX4_gatherDeadlines_30 : decode cX4_gatherDeadlines 30 = .ok (.aload_n 0, 1) := by decide +kernel
theorem dX4_gatherDeadlines_31 : decode cX4_gatherDeadlines 31 = .ok (.getfield 53, 3) := by decide +kernel
theorem dX4_gatherDeadlines_34 : decode cX4_gatherDeadlines 34 = .ok (.istore 5, 2) := by decide +kernel
theorem dX4_gatherDeadlines_36 : decode cX4_gatherDeadlines 36 = .ok (.iconst 0, 1) := by decide +kernel
theorem dX4_gatherDeadlines_37 : decode cX4_gatherDeadlines 37 = .ok (.istore 6, 2) := by decide +kernel
theorem dX4_gatherDeadlines_39 : decode cX4_gatherDeadlines 39 = .ok (.iload 6, 2) := by decide +kernel
theorem dX4_gatherDeadlines_41 : decode cX4_gatherDeadlines 41 = .ok (.aload_n 0, 1) := by decide +kernel
theorem dX4_gatherDeadlines_42 : decode cX4_gatherDeadlines 42 = .ok (.getfield 53, 3) := by decide +kernel
theorem dX4_gatherDeadlines_45 : decode cX4_gatherDeadlines 45 = .ok (.if_icmp .ge 33, 3) := by decide +kernel
theorem dX4_gatherDeadlines_48 : decode cX4_gatherDeadlines 48 = .ok (.aload_n 0, 1) := by decide +kernel
theorem dX4_gatherDeadlines_49 : decode cX4_gatherDeadlines 49 = .ok (.getfield 22, 3) := by decide +kernel
theorem dX4_gatherDeadlines_52 : decode cX4_gatherDeadlines 52 = .ok (.iload 6, 2) := by decide +kernel
theorem dX4_gatherDeadlines_54 : decode cX4_gatherDeadlines 54 = .ok (.iaload, 1) := by decide +kernel
theorem dX4_gatherDeadlines_55 : decode cX4_gatherDeadlines 55 = .ok (.aload_n 1, 1) := by decide +kernel
theorem dX4_gatherDeadlines_56 : decode cX4_gatherDeadlines 56 = .ok (.getfield 67, 3) := by decide +kernel
theorem dX4_gatherDeadlines_59 : decode cX4_gatherDeadlines 59 = .ok (.getfield 184, 3) := by decide +kernel
theorem dX4_gatherDeadlines_62 : decode cX4_gatherDeadlines 62 = .ok (.iload 4, 2) := by decide +kernel
theorem dX4_gatherDeadlines_64 : decode cX4_gatherDeadlines 64 = .ok (.iaload, 1) := by decide +kernel
theorem dX4_gatherDeadlines_65 : decode cX4_gatherDeadlines 65 = .ok (.if_icmp .ne 7, 3) := by decide +kernel
theorem dX4_gatherDeadlines_68 : decode cX4_gatherDeadlines 68 = .ok (.iload 6, 2) := by decide +kernel
theorem dX4_gatherDeadlines_70 : decode cX4_gatherDeadlines 70 = .ok (.istore 5, 2) := by decide +kernel
theorem dX4_gatherDeadlines_72 : decode cX4_gatherDeadlines 72 = .ok (.iinc 6 1, 3) := by decide +kernel
theorem dX4_gatherDeadlines_75 : decode cX4_gatherDeadlines 75 = .ok (.goto (-36), 3) := by decide +kernel
theorem dX4_gatherDeadlines_78 : decode cX4_gatherDeadlines 78 = .ok (.iload 5, 2) := by decide +kernel
theorem dX4_gatherDeadlines_80 : decode cX4_gatherDeadlines 80 = .ok (.aload_n 0, 1) := by decide +kernel
theorem dX4_gatherDeadlines_81 : decode cX4_gatherDeadlines 81 = .ok (.getfield 53, 3) := by decide +kernel
theorem dX4_gatherDeadlines_84 : decode cX4_gatherDeadlines 84 = .ok (.if_icmp .ne 40, 3) := by decide +kernel
theorem dX4_gatherDeadlines_87 : decode cX4_gatherDeadlines 87 = .ok (.aload_n 0, 1) := by decide +kernel
theorem dX4_gatherDeadlines_88 : decode cX4_gatherDeadlines 88 = .ok (.getfield 22, 3) := by decide +kernel
theorem dX4_gatherDeadlines_91 : decode cX4_gatherDeadlines 91 = .ok (.iload 5, 2) := by decide +kernel
theorem dX4_gatherDeadlines_93 : decode cX4_gatherDeadlines 93 = .ok (.aload_n 1, 1) := by decide +kernel
theorem dX4_gatherDeadlines_94 : decode cX4_gatherDeadlines 94 = .ok (.getfield 67, 3) := by decide +kernel
theorem dX4_gatherDeadlines_97 : decode cX4_gatherDeadlines 97 = .ok (.getfield 184, 3) := by decide +kernel
theorem dX4_gatherDeadlines_100 : decode cX4_gatherDeadlines 100 = .ok (.iload 4, 2) := by decide +kernel
theorem dX4_gatherDeadlines_102 : decode cX4_gatherDeadlines 102 = .ok (.iaload, 1) := by decide +kernel
theorem dX4_gatherDeadlines_103 : decode cX4_gatherDeadlines 103 = .ok (.iastore, 1) := by decide +kernel
theorem dX4_gatherDeadlines_104 : decode cX4_gatherDeadlines 104 = .ok (.aload_n 0, 1) := by decide +kernel
theorem dX4_gatherDeadlines_105 : decode cX4_gatherDeadlines 105 = .ok (.getfield 25, 3) := by decide +kernel
theorem dX4_gatherDeadlines_108 : decode cX4_gatherDeadlines 108 = .ok (.iload 5, 2) := by decide +kernel
theorem dX4_gatherDeadlines_110 : decode cX4_gatherDeadlines 110 = .ok (.sipush 399, 3) := by decide +kernel
theorem dX4_gatherDeadlines_113 : decode cX4_gatherDeadlines 113 = .ok (.iastore, 1) := by decide +kernel
theorem dX4_gatherDeadlines_114 : decode cX4_gatherDeadlines 114 = .ok (.aload_n 0, 1) := by decide +kernel
theorem dX4_gatherDeadlines_115 : decode cX4_gatherDeadlines 115 = .ok (.dup, 1) := by decide +kernel
theorem dX4_gatherDeadlines_116 : decode cX4_gatherDeadlines 116 = .ok (.getfield 53, 3) := by decide +kernel
theorem dX4_gatherDeadlines_119 : decode cX4_gatherDeadlines 119 = .ok (.iconst 1, 1) := by decide +kernel
theorem dX4_gatherDeadlines_120 : decode cX4_gatherDeadlines 120 = .ok (.iadd, 1) := by decide +kernel
theorem dX4_gatherDeadlines_121 : decode cX4_gatherDeadlines 121 = .ok (.putfield 53, 3) := by decide +kernel
theorem dX4_gatherDeadlines_124 : decode cX4_gatherDeadlines 124 = .ok (.aload_n 0, 1) := by decide +kernel
theorem dX4_gatherDeadlines_125 : decode cX4_gatherDeadlines 125 = .ok (.getfield 25, 3) := by decide +kernel
theorem dX4_gatherDeadlines_128 : decode cX4_gatherDeadlines 128 = .ok (.iload 5, 2) := by decide +kernel
theorem dX4_gatherDeadlines_130 : decode cX4_gatherDeadlines 130 = .ok (.aload_n 0, 1) := by decide +kernel
theorem dX4_gatherDeadlines_131 : decode cX4_gatherDeadlines 131 = .ok (.getfield 25, 3) := by decide +kernel
theorem dX4_gatherDeadlines_134 : decode cX4_gatherDeadlines 134 = .ok (.iload 5, 2) := by decide +kernel
theorem dX4_gatherDeadlines_136 : decode cX4_gatherDeadlines 136 = .ok (.iaload, 1) := by decide +kernel
theorem dX4_gatherDeadlines_137 : decode cX4_gatherDeadlines 137 = .ok (.aload_n 1, 1) := by decide +kernel
theorem dX4_gatherDeadlines_138 : decode cX4_gatherDeadlines 138 = .ok (.getfield 67, 3) := by decide +kernel
theorem dX4_gatherDeadlines_141 : decode cX4_gatherDeadlines 141 = .ok (.getfield 187, 3) := by decide +kernel
theorem dX4_gatherDeadlines_144 : decode cX4_gatherDeadlines 144 = .ok (.iload 4, 2) := by decide +kernel
theorem dX4_gatherDeadlines_146 : decode cX4_gatherDeadlines 146 = .ok (.iaload, 1) := by decide +kernel
theorem dX4_gatherDeadlines_147 : decode cX4_gatherDeadlines 147 = .ok (.invokestatic 136, 3) := by decide +kernel
theorem dX4_gatherDeadlines_150 : decode cX4_gatherDeadlines 150 = .ok (.iastore, 1) := by decide +kernel
theorem dX4_gatherDeadlines_151 : decode cX4_gatherDeadlines 151 = .ok (.iinc 3 1, 3) := by decide +kernel
theorem dX4_gatherDeadlines_154 : decode cX4_gatherDeadlines 154 = .ok (.goto (-147), 3) := by decide +kernel
theorem dX4_gatherDeadlines_157 : decode cX4_gatherDeadlines 157 = .ok (.return_, 1) := by decide +kernel
theorem dX4_inTime_0 : decode cX4_inTime 0 = .ok (.iconst 0, 1) := by decide +kernel
theorem dX4_inTime_1 : decode cX4_inTime 1 = .ok (.istore_n 2, 1) := by decide +kernel
theorem dX4_inTime_2 : decode cX4_inTime 2 = .ok (.iconst 0, 1) := by decide +kernel
theorem dX4_inTime_3 : decode cX4_inTime 3 = .ok (.istore_n 3, 1) := by decide +kernel
theorem dX4_inTime_4 : decode cX4_inTime 4 = .ok (.iload_n 3, 1) := by decide +kernel
theorem dX4_inTime_5 : decode cX4_inTime 5 = .ok (.aload_n 0, 1) := by decide +kernel
theorem dX4_inTime_6 : decode cX4_inTime 6 = .ok (.getfield 53, 3) := by decide +kernel
theorem dX4_inTime_9 : decode cX4_inTime 9 = .ok (.if_icmp .ge 25, 3) := by decide +kernel
theorem dX4_inTime_12 : decode cX4_inTime 12 = .ok (.iload_n 1, 1) := by decide +kernel
theorem dX4_inTime_13 : decode cX4_inTime 13 = .ok (.aload_n 0, 1) := by decide +kernel
theorem dX4_inTime_14 : decode cX4_inTime 14 = .ok (.getfield 25, 3) := by decide +kernel
theorem dX4_inTime_17 : decode cX4_inTime 17 = .ok (.iload_n 3, 1) := by decide +kernel
theorem dX4_inTime_18 : decode cX4_inTime 18 = .ok (.iaload, 1) := by decide +kernel
theorem dX4_inTime_19 : decode cX4_inTime 19 = .ok (.if_icmp .gt 9, 3) := by decide +kernel
theorem dX4_inTime_22 : decode cX4_inTime 22 = .ok (.iload_n 2, 1) := by decide +kernel
theorem dX4_inTime_23 : decode cX4_inTime 23 = .ok (.iconst 1, 1) := by decide +kernel
theorem dX4_inTime_24 : decode cX4_inTime 24 = .ok (.iload_n 3, 1) := by decide +kernel
theorem dX4_inTime_25 : decode cX4_inTime 25 = .ok (.ishl, 1) := by decide +kernel
theorem dX4_inTime_26 : decode cX4_inTime 26 = .ok (.ior, 1) := by decide +kernel
theorem dX4_inTime_27 : decode cX4_inTime 27 = .ok (.istore_n 2, 1) := by decide +kernel
theorem dX4_inTime_28 : decode cX4_inTime 28 = .ok (.iinc 3 1, 3) := by decide +kernel
theorem dX4_inTime_31 : decode cX4_inTime 31 = .ok (.goto (-27), 3) := by decide +kernel
theorem dX4_inTime_34 : decode cX4_inTime 34 = .ok (.iload_n 2, 1) := by decide +kernel
theorem dX4_inTime_35 : decode cX4_inTime 35 = .ok (.ireturn, 1) := by decide +kernel
theorem dX4_addDay_0 : decode cX4_addDay 0 = .ok (.iload_n 1, 1) := by decide +kernel
theorem dX4_addDay_1 : decode cX4_addDay 1 = .ok (.istore_n 3, 1) := by decide +kernel
theorem dX4_addDay_2 : decode cX4_addDay 2 = .ok (.iload_n 3, 1) := by decide +kernel
theorem dX4_addDay_3 : decode cX4_addDay 3 = .ok (.ifCond .le 121, 3) := by decide +kernel
theorem dX4_addDay_6 : decode cX4_addDay 6 = .ok (.iload_n 3, 1) := by decide +kernel
theorem dX4_addDay_7 : decode cX4_addDay 7 = .ok (.iload_n 2, 1) := by decide +kernel
theorem dX4_addDay_8 : decode cX4_addDay 8 = .ok (.iand, 1) := by decide +kernel
theorem dX4_addDay_9 : decode cX4_addDay 9 = .ok (.istore 4, 2) := by decide +kernel
theorem dX4_addDay_11 : decode cX4_addDay 11 = .ok (.iload 4, 2) := by decide +kernel
theorem dX4_addDay_13 : decode cX4_addDay 13 = .ok (.ifCond .eq 45, 3) := by decide +kernel
theorem dX4_addDay_16 : decode cX4_addDay 16 = .ok (.aload_n 0, 1) := by decide +kernel
theorem dX4_addDay_17 : decode cX4_addDay 17 = .ok (.getfield 43, 3) := by decide +kernel
theorem dX4_addDay_20 : decode cX4_addDay 20 = .ok (.iload 4, 2) := by decide +kernel
theorem dX4_addDay_22 : decode cX4_addDay 22 = .ok (.iaload, 1) := by decide +kernel
theorem dX4_addDay_23 : decode cX4_addDay 23 = .ok (.sipush 1000, 3) := by decide +kernel
theorem dX4_addDay_26 : decode cX4_addDay 26 = .ok (.if_icmp .ge 32, 3) := by decide +kernel
theorem dX4_addDay_29 : decode cX4_addDay 29 = .ok (.aload_n 0, 1) := by decide +kernel
theorem dX4_addDay_30 : decode cX4_addDay 30 = .ok (.getfield 46, 3) := by decide +kernel
theorem dX4_addDay_33 : decode cX4_addDay 33 = .ok (.iload_n 3, 1) := by decide +kernel
theorem dX4_addDay_34 : decode cX4_addDay 34 = .ok (.aload_n 0, 1) := by decide +kernel
theorem dX4_addDay_35 : decode cX4_addDay 35 = .ok (.getfield 46, 3) := by decide +kernel
theorem dX4_addDay_38 : decode cX4_addDay 38 = .ok (.iload_n 3, 1) := by decide +kernel
theorem dX4_addDay_39 : decode cX4_addDay 39 = .ok (.iaload, 1) := by decide +kernel
theorem dX4_addDay_40 : decode cX4_addDay 40 = .ok (.aload_n 0, 1) := by decide +kernel
theorem dX4_addDay_41 : decode cX4_addDay 41 = .ok (.getfield 46, 3) := by decide +kernel
theorem dX4_addDay_44 : decode cX4_addDay 44 = .ok (.iload_n 3, 1) := by decide +kernel
theorem dX4_addDay_45 : decode cX4_addDay 45 = .ok (.iload 4, 2) := by decide +kernel
theorem dX4_addDay_47 : decode cX4_addDay 47 = .ok (.ixor, 1) := by decide +kernel
theorem dX4_addDay_48 : decode cX4_addDay 48 = .ok (.iaload, 1) := by decide +kernel
theorem dX4_addDay_49 : decode cX4_addDay 49 = .ok (.iconst 1, 1) := by decide +kernel
theorem dX4_addDay_50 : decode cX4_addDay 50 = .ok (.iadd, 1) := by decide +kernel
theorem dX4_addDay_51 : decode cX4_addDay 51 = .ok (.invokestatic 136, 3) := by decide +kernel
theorem dX4_addDay_54 : decode cX4_addDay 54 = .ok (.iastore, 1) := by decide +kernel
theorem dX4_addDay_55 : decode cX4_addDay 55 = .ok (.goto 63, 3) := by decide +kernel
theorem dX4_addDay_58 : decode cX4_addDay 58 = .ok (.iload 4, 2) := by decide +kernel
theorem dX4_addDay_60 : decode cX4_addDay 60 = .ok (.istore 5, 2) := by decide +kernel
theorem dX4_addDay_62 : decode cX4_addDay 62 = .ok (.iload 5, 2) := by decide +kernel
theorem dX4_addDay_64 : decode cX4_addDay 64 = .ok (.ifCond .le 54, 3) := by decide +kernel
theorem dX4_addDay_67 : decode cX4_addDay 67 = .ok (.aload_n 0, 1) := by decide +kernel
theorem dX4_addDay_68 : decode cX4_addDay 68 = .ok (.getfield 43, 3) := by decide +kernel
theorem dX4_addDay_71 : decode cX4_addDay 71 = .ok (.iload 5, 2) := by decide +kernel
theorem dX4_addDay_73 : decode cX4_addDay 73 = .ok (.iaload, 1) := by decide +kernel
theorem dX4_addDay_74 : decode cX4_addDay 74 = .ok (.sipush 1000, 3) := by decide +kernel
theorem dX4_addDay_77 : decode cX4_addDay 77 = .ok (.if_icmp .ge 29, 3) := by decide +kernel
theorem dX4_addDay_80 : decode cX4_addDay 80 = .ok (.aload_n 0, 1) := by decide +kernel
theorem dX4_addDay_81 : decode cX4_addDay 81 = .ok (.getfield 46, 3) := by decide +kernel
theorem dX4_addDay_84 : decode cX4_addDay 84 = .ok (.iload_n 3, 1) := by decide +kernel
theorem dX4_addDay_85 : decode cX4_addDay 85 = .ok (.aload_n 0, 1) := by decide +kernel
theorem dX4_addDay_86 : decode cX4_addDay 86 = .ok (.getfield 46, 3) := by decide +kernel
theorem dX4_addDay_89 : decode cX4_addDay 89 = .ok (.iload_n 3, 1) := by decide +kernel
theorem dX4_addDay_90 : decode cX4_addDay 90 = .ok (.iaload, 1) := by decide +kernel
theorem dX4_addDay_91 : decode cX4_addDay 91 = .ok (.aload_n 0, 1) := by decide +kernel
theorem dX4_addDay_92 : decode cX4_addDay 92 = .ok (.getfield 46, 3) := by decide +kernel
theorem dX4_addDay_95 : decode cX4_addDay 95 = .ok (.iload_n 3, 1) := by decide +kernel
theorem dX4_addDay_96 : decode cX4_addDay 96 = .ok (.iload 5, 2) := by decide +kernel
theorem dX4_addDay_98 : decode cX4_addDay 98 = .ok (.ixor, 1) := by decide +kernel
theorem dX4_addDay_99 : decode cX4_addDay 99 = .ok (.iaload, 1) := by decide +kernel
theorem dX4_addDay_100 : decode cX4_addDay 100 = .ok (.iconst 1, 1) := by decide +kernel
theorem dX4_addDay_101 : decode cX4_addDay 101 = .ok (.iadd, 1) := by decide +kernel
theorem dX4_addDay_102 : decode cX4_addDay 102 = .ok (.invokestatic 136, 3) := by decide +kernel
theorem dX4_addDay_105 : decode cX4_addDay 105 = .ok (.iastore, 1) := by decide +kernel
theorem dX4_addDay_106 : decode cX4_addDay 106 = .ok (.iload 5, 2) := by decide +kernel
theorem dX4_addDay_108 : decode cX4_addDay 108 = .ok (.iconst 1, 1) := by decide +kernel
theorem dX4_addDay_109 : decode cX4_addDay 109 = .ok (.isub, 1) := by decide +kernel
theorem dX4_addDay_110 : decode cX4_addDay 110 = .ok (.iload 4, 2) := by decide +kernel
theorem dX4_addDay_112 : decode cX4_addDay 112 = .ok (.iand, 1) := by decide +kernel
theorem dX4_addDay_113 : decode cX4_addDay 113 = .ok (.istore 5, 2) := by decide +kernel
theorem dX4_addDay_115 : decode cX4_addDay 115 = .ok (.goto (-53), 3) := by decide +kernel
theorem dX4_addDay_118 : decode cX4_addDay 118 = .ok (.iinc 3 (-1), 3) := by decide +kernel
theorem dX4_addDay_121 : decode cX4_addDay 121 = .ok (.goto (-119), 3) := by decide +kernel
theorem dX4_addDay_124 : decode cX4_addDay 124 = .ok (.return_, 1) := by decide +kernel
theorem dX4_lostBits_0 : decode cX4_lostBits 0 = .ok (.iconst 0, 1) := by decide +kernel
theorem dX4_lostBits_1 : decode cX4_lostBits 1 = .ok (.istore_n 3, 1) := by decide +kernel
theorem dX4_lostBits_2 : decode cX4_lostBits 2 = .ok (.iconst 0, 1) := by decide +kernel
theorem dX4_lostBits_3 : decode cX4_lostBits 3 = .ok (.istore 4, 2) := by decide +kernel
theorem dX4_lostBits_5 : decode cX4_lostBits 5 = .ok (.iload 4, 2) := by decide +kernel
theorem dX4_lostBits_7 : decode cX4_lostBits 7 = .ok (.bipush 10, 2) := by decide +kernel
theorem dX4_lostBits_9 : decode cX4_lostBits 9 = .ok (.if_icmp .ge 62, 3) := by decide +kernel
theorem dX4_lostBits_12 : decode cX4_lostBits 12 = .ok (.aload_n 1, 1) := by decide +kernel
theorem dX4_lostBits_13 : decode cX4_lostBits 13 = .ok (.getfield 67, 3) := by decide +kernel
theorem dX4_lostBits_16 : decode cX4_lostBits 16 = .ok (.iload_n 2, 1) := by decide +kernel
theorem dX4_lostBits_17 : decode cX4_lostBits 17 = .ok (.iload 4, 2) := by decide +kernel
theorem dX4_lostBits_19 : decode cX4_lostBits 19 = .ok (.invokevirtual 181, 3) := by decide +kernel
