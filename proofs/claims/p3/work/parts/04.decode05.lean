theorem dX4_reckonMinutes_32 : decode cX4_reckonMinutes 32 = .ok (.ixor, 1) := by decide +kernel
theorem dX4_reckonMinutes_33 : decode cX4_reckonMinutes 33 = .ok (.iand, 1) := by decide +kernel
theorem dX4_reckonMinutes_34 : decode cX4_reckonMinutes 34 = .ok (.ifCond .ne 88, 3) := by decide +kernel
theorem dX4_reckonMinutes_37 : decode cX4_reckonMinutes 37 = .ok (.iconst 0, 1) := by decide +kernel
theorem dX4_reckonMinutes_38 : decode cX4_reckonMinutes 38 = .ok (.istore 6, 2) := by decide +kernel
theorem dX4_reckonMinutes_40 : decode cX4_reckonMinutes 40 = .ok (.iload 6, 2) := by decide +kernel
theorem dX4_reckonMinutes_42 : decode cX4_reckonMinutes 42 = .ok (.aload_n 0, 1) := by decide +kernel
theorem dX4_reckonMinutes_43 : decode cX4_reckonMinutes 43 = .ok (.getfield 53, 3) := by decide +kernel
theorem dX4_reckonMinutes_46 : decode cX4_reckonMinutes 46 = .ok (.if_icmp .ge 76, 3) := by decide +kernel
theorem dX4_reckonMinutes_49 : decode cX4_reckonMinutes 49 = .ok (.iload 4, 2) := by decide +kernel
theorem dX4_reckonMinutes_51 : decode cX4_reckonMinutes 51 = .ok (.iload 6, 2) := by decide +kernel
theorem dX4_reckonMinutes_53 : decode cX4_reckonMinutes 53 = .ok (.ishr, 1) := by decide +kernel
theorem dX4_reckonMinutes_54 : decode cX4_reckonMinutes 54 = .ok (.iconst 1, 1) := by decide +kernel
theorem dX4_reckonMinutes_55 : decode cX4_reckonMinutes 55 = .ok (.iand, 1) := by decide +kernel
theorem dX4_reckonMinutes_56 : decode cX4_reckonMinutes 56 = .ok (.iconst 1, 1) := by decide +kernel
theorem dX4_reckonMinutes_57 : decode cX4_reckonMinutes 57 = .ok (.if_icmp .ne 59, 3) := by decide +kernel
theorem dX4_reckonMinutes_60 : decode cX4_reckonMinutes 60 = .ok (.aload_n 0, 1) := by decide +kernel
theorem dX4_reckonMinutes_61 : decode cX4_reckonMinutes 61 = .ok (.aload_n 0, 1) := by decide +kernel
theorem dX4_reckonMinutes_62 : decode cX4_reckonMinutes 62 = .ok (.getfield 22, 3) := by decide +kernel
theorem dX4_reckonMinutes_65 : decode cX4_reckonMinutes 65 = .ok (.iload 6, 2) := by decide +kernel
theorem dX4_reckonMinutes_67 : decode cX4_reckonMinutes 67 = .ok (.iaload, 1) := by decide +kernel
theorem dX4_reckonMinutes_68 : decode cX4_reckonMinutes 68 = .ok (.aload_n 0, 1) := by decide +kernel
theorem dX4_reckonMinutes_69 : decode cX4_reckonMinutes 69 = .ok (.iload_n 1, 1) := by decide +kernel
theorem dX4_reckonMinutes_70 : decode cX4_reckonMinutes 70 = .ok (.iload 4, 2) := by decide +kernel
theorem dX4_reckonMinutes_72 : decode cX4_reckonMinutes 72 = .ok (.iconst 1, 1) := by decide +kernel
theorem dX4_reckonMinutes_73 : decode cX4_reckonMinutes 73 = .ok (.iload 6, 2) := by decide +kernel
theorem dX4_reckonMinutes_75 : decode cX4_reckonMinutes 75 = .ok (.ishl, 1) := by decide +kernel
theorem dX4_reckonMinutes_76 : decode cX4_reckonMinutes 76 = .ok (.ixor, 1) := by decide +kernel
theorem dX4_reckonMinutes_77 : decode cX4_reckonMinutes 77 = .ok (.aload_n 0, 1) := by decide +kernel
theorem dX4_reckonMinutes_78 : decode cX4_reckonMinutes 78 = .ok (.getfield 22, 3) := by decide +kernel
theorem dX4_reckonMinutes_81 : decode cX4_reckonMinutes 81 = .ok (.iload 6, 2) := by decide +kernel
theorem dX4_reckonMinutes_83 : decode cX4_reckonMinutes 83 = .ok (.iaload, 1) := by decide +kernel
theorem dX4_reckonMinutes_84 : decode cX4_reckonMinutes 84 = .ok (.invokevirtual 129, 3) := by decide +kernel
theorem dX4_reckonMinutes_87 : decode cX4_reckonMinutes 87 = .ok (.invokevirtual 133, 3) := by decide +kernel
theorem dX4_reckonMinutes_90 : decode cX4_reckonMinutes 90 = .ok (.istore 7, 2) := by decide +kernel
theorem dX4_reckonMinutes_92 : decode cX4_reckonMinutes 92 = .ok (.aload_n 0, 1) := by decide +kernel
theorem dX4_reckonMinutes_93 : decode cX4_reckonMinutes 93 = .ok (.getfield 40, 3) := by decide +kernel
theorem dX4_reckonMinutes_96 : decode cX4_reckonMinutes 96 = .ok (.iload 4, 2) := by decide +kernel
theorem dX4_reckonMinutes_98 : decode cX4_reckonMinutes 98 = .ok (.bipush 10, 2) := by decide +kernel
theorem dX4_reckonMinutes_100 : decode cX4_reckonMinutes 100 = .ok (.imul, 1) := by decide +kernel
theorem dX4_reckonMinutes_101 : decode cX4_reckonMinutes 101 = .ok (.iload 6, 2) := by decide +kernel
theorem dX4_reckonMinutes_103 : decode cX4_reckonMinutes 103 = .ok (.iadd, 1) := by decide +kernel
theorem dX4_reckonMinutes_104 : decode cX4_reckonMinutes 104 = .ok (.iload 7, 2) := by decide +kernel
theorem dX4_reckonMinutes_106 : decode cX4_reckonMinutes 106 = .ok (.iastore, 1) := by decide +kernel
theorem dX4_reckonMinutes_107 : decode cX4_reckonMinutes 107 = .ok (.iload 5, 2) := by decide +kernel
theorem dX4_reckonMinutes_109 : decode cX4_reckonMinutes 109 = .ok (.iload 7, 2) := by decide +kernel
theorem dX4_reckonMinutes_111 : decode cX4_reckonMinutes 111 = .ok (.invokestatic 136, 3) := by decide +kernel
theorem dX4_reckonMinutes_114 : decode cX4_reckonMinutes 114 = .ok (.istore 5, 2) := by decide +kernel
theorem dX4_reckonMinutes_116 : decode cX4_reckonMinutes 116 = .ok (.iinc 6 1, 3) := by decide +kernel
theorem dX4_reckonMinutes_119 : decode cX4_reckonMinutes 119 = .ok (.goto (-79), 3) := by decide +kernel
theorem dX4_reckonMinutes_122 : decode cX4_reckonMinutes 122 = .ok (.aload_n 0, 1) := by decide +kernel
theorem dX4_reckonMinutes_123 : decode cX4_reckonMinutes 123 = .ok (.getfield 43, 3) := by decide +kernel
theorem dX4_reckonMinutes_126 : decode cX4_reckonMinutes 126 = .ok (.iload 4, 2) := by decide +kernel
theorem dX4_reckonMinutes_128 : decode cX4_reckonMinutes 128 = .ok (.iload 5, 2) := by decide +kernel
theorem dX4_reckonMinutes_130 : decode cX4_reckonMinutes 130 = .ok (.iastore, 1) := by decide +kernel
theorem dX4_reckonMinutes_131 : decode cX4_reckonMinutes 131 = .ok (.iinc 4 1, 3) := by decide +kernel
theorem dX4_reckonMinutes_134 : decode cX4_reckonMinutes 134 = .ok (.goto (-117), 3) := by decide +kernel
theorem dX4_reckonMinutes_137 : decode cX4_reckonMinutes 137 = .ok (.return_, 1) := by decide +kernel
theorem dX4_arrival_0 : decode cX4_arrival 0 = .ok (.iload_n 2, 1) := by decide +kernel
theorem dX4_arrival_1 : decode cX4_arrival 1 = .ok (.ifCond .ne 15, 3) := by decide +kernel
theorem dX4_arrival_4 : decode cX4_arrival 4 = .ok (.aload_n 0, 1) := by decide +kernel
theorem dX4_arrival_5 : decode cX4_arrival 5 = .ok (.getfield 37, 3) := by decide +kernel
theorem dX4_arrival_8 : decode cX4_arrival 8 = .ok (.iload_n 1, 1) := by decide +kernel
theorem dX4_arrival_9 : decode cX4_arrival 9 = .ok (.bipush 16, 2) := by decide +kernel
theorem dX4_arrival_11 : decode cX4_arrival 11 = .ok (.imul, 1) := by decide +kernel
theorem dX4_arrival_12 : decode cX4_arrival 12 = .ok (.iload_n 3, 1) := by decide +kernel
theorem dX4_arrival_13 : decode cX4_arrival 13 = .ok (.iadd, 1) := by decide +kernel
theorem dX4_arrival_14 : decode cX4_arrival 14 = .ok (.iaload, 1) := by decide +kernel
theorem dX4_arrival_15 : decode cX4_arrival 15 = .ok (.ireturn, 1) := by decide +kernel
theorem dX4_arrival_16 : decode cX4_arrival 16 = .ok (.aload_n 0, 1) := by decide +kernel
theorem dX4_arrival_17 : decode cX4_arrival 17 = .ok (.getfield 43, 3) := by decide +kernel
theorem dX4_arrival_20 : decode cX4_arrival 20 = .ok (.iload_n 2, 1) := by decide +kernel
theorem dX4_arrival_21 : decode cX4_arrival 21 = .ok (.iaload, 1) := by decide +kernel
theorem dX4_arrival_22 : decode cX4_arrival 22 = .ok (.sipush 1000, 3) := by decide +kernel
theorem dX4_arrival_25 : decode cX4_arrival 25 = .ok (.if_icmp .lt 7, 3) := by decide +kernel
theorem dX4_arrival_28 : decode cX4_arrival 28 = .ok (.sipush 1000, 3) := by decide +kernel
theorem dX4_arrival_31 : decode cX4_arrival 31 = .ok (.ireturn, 1) := by decide +kernel
theorem dX4_arrival_32 : decode cX4_arrival 32 = .ok (.sipush 1000, 3) := by decide +kernel
theorem dX4_arrival_35 : decode cX4_arrival 35 = .ok (.istore 4, 2) := by decide +kernel
theorem dX4_arrival_37 : decode cX4_arrival 37 = .ok (.iconst 0, 1) := by decide +kernel
theorem dX4_arrival_38 : decode cX4_arrival 38 = .ok (.istore 5, 2) := by decide +kernel
theorem dX4_arrival_40 : decode cX4_arrival 40 = .ok (.iload 5, 2) := by decide +kernel
theorem dX4_arrival_42 : decode cX4_arrival 42 = .ok (.aload_n 0, 1) := by decide +kernel
theorem dX4_arrival_43 : decode cX4_arrival 43 = .ok (.getfield 53, 3) := by decide +kernel
theorem dX4_arrival_46 : decode cX4_arrival 46 = .ok (.if_icmp .ge 60, 3) := by decide +kernel
theorem dX4_arrival_49 : decode cX4_arrival 49 = .ok (.iload_n 2, 1) := by decide +kernel
theorem dX4_arrival_50 : decode cX4_arrival 50 = .ok (.iload 5, 2) := by decide +kernel
theorem dX4_arrival_52 : decode cX4_arrival 52 = .ok (.ishr, 1) := by decide +kernel
theorem dX4_arrival_53 : decode cX4_arrival 53 = .ok (.iconst 1, 1) := by decide +kernel
theorem dX4_arrival_54 : decode cX4_arrival 54 = .ok (.iand, 1) := by decide +kernel
theorem dX4_arrival_55 : decode cX4_arrival 55 = .ok (.iconst 1, 1) := by decide +kernel
theorem dX4_arrival_56 : decode cX4_arrival 56 = .ok (.if_icmp .ne 44, 3) := by decide +kernel
theorem dX4_arrival_59 : decode cX4_arrival 59 = .ok (.aload_n 0, 1) := by decide +kernel
theorem dX4_arrival_60 : decode cX4_arrival 60 = .ok (.getfield 40, 3) := by decide +kernel
theorem dX4_arrival_63 : decode cX4_arrival 63 = .ok (.iload_n 2, 1) := by decide +kernel
theorem dX4_arrival_64 : decode cX4_arrival 64 = .ok (.bipush 10, 2) := by decide +kernel
theorem dX4_arrival_66 : decode cX4_arrival 66 = .ok (.imul, 1) := by decide +kernel
theorem dX4_arrival_67 : decode cX4_arrival 67 = .ok (.iload 5, 2) := by decide +kernel
theorem dX4_arrival_69 : decode cX4_arrival 69 = .ok (.iadd, 1) := by decide +kernel
theorem dX4_arrival_70 : decode cX4_arrival 70 = .ok (.iaload, 1) := by decide +kernel
theorem dX4_arrival_71 : decode cX4_arrival 71 = .ok (.aload_n 0, 1) := by decide +kernel
theorem dX4_arrival_72 : decode cX4_arrival 72 = .ok (.getfield 37, 3) := by decide +kernel
theorem dX4_arrival_75 : decode cX4_arrival 75 = .ok (.aload_n 0, 1) := by decide +kernel
theorem dX4_arrival_76 : decode cX4_arrival 76 = .ok (.getfield 22, 3) := by decide +kernel
theorem dX4_arrival_79 : decode cX4_arrival 79 = .ok (.iload 5, 2) := by decide +kernel
theorem dX4_arrival_81 : decode cX4_arrival 81 = .ok (.iaload, 1) := by decide +kernel
theorem dX4_arrival_82 : decode cX4_arrival 82 = .ok (.bipush 16, 2) := by decide +kernel
theorem dX4_arrival_84 : decode cX4_arrival 84 = .ok (.imul, 1) := by decide +kernel
theorem dX4_arrival_85 : decode cX4_arrival 85 = .ok (.iload_n 3, 1) := by decide +kernel
theorem dX4_arrival_86 : decode cX4_arrival 86 = .ok (.iadd, 1) := by decide +kernel
theorem dX4_arrival_87 : decode cX4_arrival 87 = .ok (.iaload, 1) := by decide +kernel
theorem dX4_arrival_88 : decode cX4_arrival 88 = .ok (.iadd, 1) := by decide +kernel
theorem dX4_arrival_89 : decode cX4_arrival 89 = .ok (.istore 6, 2) := by decide +kernel
theorem dX4_arrival_91 : decode cX4_arrival 91 = .ok (.iload 4, 2) := by decide +kernel
theorem dX4_arrival_93 : decode cX4_arrival 93 = .ok (.iload 6, 2) := by decide +kernel
theorem dX4_arrival_95 : decode cX4_arrival 95 = .ok (.invokestatic 136, 3) := by decide +kernel
theorem dX4_arrival_98 : decode cX4_arrival 98 = .ok (.istore 4, 2) := by decide +kernel
theorem dX4_arrival_100 : decode cX4_arrival 100 = .ok (.iinc 5 1, 3) := by decide +kernel
theorem dX4_arrival_103 : decode cX4_arrival 103 = .ok (.goto (-63), 3) := by decide +kernel
theorem dX4_arrival_106 : decode cX4_arrival 106 = .ok (.iload 4, 2) := by decide +kernel
theorem dX4_arrival_108 : decode cX4_arrival 108 = .ok (.ireturn, 1) := by decide +kernel
theorem dX4_bestSet_0 : decode cX4_bestSet 0 = .ok (.aload_n 0, 1) := by decide +kernel
theorem dX4_bestSet_1 : decode cX4_bestSet 1 = .ok (.iconst 0, 1) := by decide +kernel
theorem dX4_bestSet_2 : decode cX4_bestSet 2 = .ok (.putfield 139, 3) := by decide +kernel
theorem dX4_bestSet_5 : decode cX4_bestSet 5 = .ok (.aload_n 0, 1) := by decide +kernel
theorem dX4_bestSet_6 : decode cX4_bestSet 6 = .ok (.iconst 0, 1) := by decide +kernel
theorem dX4_bestSet_7 : decode cX4_bestSet 7 = .ok (.putfield 92, 3) := by decide +kernel
theorem dX4_bestSet_10 : decode cX4_bestSet 10 = .ok (.iconst 0, 1) := by decide +kernel
theorem dX4_bestSet_11 : decode cX4_bestSet 11 = .ok (.istore_n 3, 1) := by decide +kernel
theorem dX4_bestSet_12 : decode cX4_bestSet 12 = .ok (.iconst 1, 1) := by decide +kernel
theorem dX4_bestSet_13 : decode cX4_bestSet 13 = .ok (.aload_n 0, 1) := by decide +kernel
theorem dX4_bestSet_14 : decode cX4_bestSet 14 = .ok (.getfield 53, 3) := by decide +kernel
theorem dX4_bestSet_17 : decode cX4_bestSet 17 = .ok (.ishl, 1) := by decide +kernel
theorem dX4_bestSet_18 : decode cX4_bestSet 18 = .ok (.istore 4, 2) := by decide +kernel
theorem dX4_bestSet_20 : decode cX4_bestSet 20 = .ok (.aload_n 0, 1) := by decide +kernel
theorem dX4_bestSet_21 : decode cX4_bestSet 21 = .ok (.getfield 46, 3) := by decide +kernel
theorem dX4_bestSet_24 : decode cX4_bestSet 24 = .ok (.iconst 0, 1) := by decide +kernel
theorem dX4_bestSet_25 : decode cX4_bestSet 25 = .ok (.iconst 0, 1) := by decide +kernel
theorem dX4_bestSet_26 : decode cX4_bestSet 26 = .ok (.iastore, 1) := by decide +kernel
theorem dX4_bestSet_27 : decode cX4_bestSet 27 = .ok (.iconst 1, 1) := by decide +kernel
theorem dX4_bestSet_28 : decode cX4_bestSet 28 = .ok (.istore 5, 2) := by decide +kernel
theorem dX4_bestSet_30 : decode cX4_bestSet 30 = .ok (.iload 5, 2) := by decide +kernel
theorem dX4_bestSet_32 : decode cX4_bestSet 32 = .ok (.iload 4, 2) := by decide +kernel
theorem dX4_bestSet_34 : decode cX4_bestSet 34 = .ok (.if_icmp .ge 146, 3) := by decide +kernel
theorem dX4_bestSet_37 : decode cX4_bestSet 37 = .ok (.iload 5, 2) := by decide +kernel
theorem dX4_bestSet_39 : decode cX4_bestSet 39 = .ok (.invokestatic 142, 3) := by decide +kernel
theorem dX4_bestSet_42 : decode cX4_bestSet 42 = .ok (.istore 6, 2) := by decide +kernel
theorem dX4_bestSet_44 : decode cX4_bestSet 44 = .ok (.aload_n 0, 1) := by decide +kernel
theorem dX4_bestSet_45 : decode cX4_bestSet 45 = .ok (.getfield 46, 3) := by decide +kernel
theorem dX4_bestSet_48 : decode cX4_bestSet 48 = .ok (.iload 5, 2) := by decide +kernel
theorem dX4_bestSet_50 : decode cX4_bestSet 50 = .ok (.aload_n 0, 1) := by decide +kernel
theorem dX4_bestSet_51 : decode cX4_bestSet 51 = .ok (.getfield 46, 3) := by decide +kernel
theorem dX4_bestSet_54 : decode cX4_bestSet 54 = .ok (.iload 5, 2) := by decide +kernel
theorem dX4_bestSet_56 : decode cX4_bestSet 56 = .ok (.iload 5, 2) := by decide +kernel
theorem dX4_bestSet_58 : decode cX4_bestSet 58 = .ok (.iconst 1, 1) := by decide +kernel
theorem dX4_bestSet_59 : decode cX4_bestSet 59 = .ok (.isub, 1) := by decide +kernel
theorem dX4_bestSet_60 : decode cX4_bestSet 60 = .ok (.iand, 1) := by decide +kernel
theorem dX4_bestSet_61 : decode cX4_bestSet 61 = .ok (.iaload, 1) := by decide +kernel
theorem dX4_bestSet_62 : decode cX4_bestSet 62 = .ok (.aload_n 1, 1) := by decide +kernel
theorem dX4_bestSet_63 : decode cX4_bestSet 63 = .ok (.getfield 67, 3) := by decide +kernel
theorem dX4_bestSet_66 : decode cX4_bestSet 66 = .ok (.iload_n 2, 1) := by decide +kernel
theorem dX4_bestSet_67 : decode cX4_bestSet 67 = .ok (.aload_n 0, 1) := by decide +kernel
theorem dX4_bestSet_68 : decode cX4_bestSet 68 = .ok (.getfield 22, 3) := by decide +kernel
theorem dX4_bestSet_71 : decode cX4_bestSet 71 = .ok (.iload 6, 2) := by decide +kernel
theorem dX4_bestSet_73 : decode cX4_bestSet 73 = .ok (.iaload, 1) := by decide +kernel
theorem dX4_bestSet_74 : decode cX4_bestSet 74 = .ok (.invokevirtual 71, 3) := by decide +kernel
theorem dX4_bestSet_77 : decode cX4_bestSet 77 = .ok (.invokestatic 148, 3) := by decide +kernel
theorem dX4_bestSet_80 : decode cX4_bestSet 80 = .ok (.iadd, 1) := by decide +kernel
theorem dX4_bestSet_81 : decode cX4_bestSet 81 = .ok (.iastore, 1) := by decide +kernel
theorem dX4_bestSet_82 : decode cX4_bestSet 82 = .ok (.aload_n 0, 1) := by decide +kernel
theorem dX4_bestSet_83 : decode cX4_bestSet 83 = .ok (.getfield 46, 3) := by decide +kernel
theorem dX4_bestSet_86 : decode cX4_bestSet 86 = .ok (.iload 5, 2) := by decide +kernel
theorem dX4_bestSet_88 : decode cX4_bestSet 88 = .ok (.iaload, 1) := by decide +kernel
theorem dX4_bestSet_89 : decode cX4_bestSet 89 = .ok (.aload_n 0, 1) := by decide +kernel
theorem dX4_bestSet_90 : decode cX4_bestSet 90 = .ok (.getfield 139, 3) := by decide +kernel
theorem dX4_bestSet_93 : decode cX4_bestSet 93 = .ok (.if_icmp .ne 21, 3) := by decide +kernel
theorem dX4_bestSet_96 : decode cX4_bestSet 96 = .ok (.aload_n 0, 1) := by decide +kernel
theorem dX4_bestSet_97 : decode cX4_bestSet 97 = .ok (.getfield 43, 3) := by decide +kernel
theorem dX4_bestSet_100 : decode cX4_bestSet 100 = .ok (.iload 5, 2) := by decide +kernel
theorem dX4_bestSet_102 : decode cX4_bestSet 102 = .ok (.iaload, 1) := by decide +kernel
theorem dX4_bestSet_103 : decode cX4_bestSet 103 = .ok (.aload_n 0, 1) := by decide +kernel
theorem dX4_bestSet_104 : decode cX4_bestSet 104 = .ok (.getfield 92, 3) := by decide +kernel
theorem dX4_bestSet_107 : decode cX4_bestSet 107 = .ok (.if_icmp .ge 7, 3) := by decide +kernel
theorem dX4_bestSet_110 : decode cX4_bestSet 110 = .ok (.iconst 1, 1) := by decide +kernel
theorem dX4_bestSet_111 : decode cX4_bestSet 111 = .ok (.goto 4, 3) := by decide +kernel
theorem dX4_bestSet_114 : decode cX4_bestSet 114 = .ok (.iconst 0, 1) := by decide +kernel
theorem dX4_bestSet_115 : decode cX4_bestSet 115 = .ok (.istore 7, 2) := by decide +kernel
theorem dX4_bestSet_117 : decode cX4_bestSet 117 = .ok (.aload_n 0, 1) := by decide +kernel
theorem dX4_bestSet_118 : decode cX4_bestSet 118 = .ok (.getfield 43, 3) := by decide +kernel
theorem dX4_bestSet_121 : decode cX4_bestSet 121 = .ok (.iload 5, 2) := by decide +kernel
theorem dX4_bestSet_123 : decode cX4_bestSet 123 = .ok (.iaload, 1) := by decide +kernel
theorem dX4_bestSet_124 : decode cX4_bestSet 124 = .ok (.sipush 1000, 3) := by decide +kernel
theorem dX4_bestSet_127 : decode cX4_bestSet 127 = .ok (.if_icmp .ge 47, 3) := by decide +kernel
theorem dX4_bestSet_130 : decode cX4_bestSet 130 = .ok (.aload_n 0, 1) := by decide +kernel
theorem dX4_bestSet_131 : decode cX4_bestSet 131 = .ok (.getfield 46, 3) := by decide +kernel
theorem dX4_bestSet_134 : decode cX4_bestSet 134 = .ok (.iload 5, 2) := by decide +kernel
theorem dX4_bestSet_136 : decode cX4_bestSet 136 = .ok (.iaload, 1) := by decide +kernel
theorem dX4_bestSet_137 : decode cX4_bestSet 137 = .ok (.aload_n 0, 1) := by decide +kernel
theorem dX4_bestSet_138 : decode cX4_bestSet 138 = .ok (.getfield 139, 3) := by decide +kernel
theorem dX4_bestSet_141 : decode cX4_bestSet 141 = .ok (.if_icmp .gt 8, 3) := by decide +kernel
theorem dX4_bestSet_144 : decode cX4_bestSet 144 = .ok (.iload 7, 2) := by decide +kernel
theorem dX4_bestSet_146 : decode cX4_bestSet 146 = .ok (.ifCond .eq 28, 3) := by decide +kernel
theorem dX4_bestSet_149 : decode cX4_bestSet 149 = .ok (.iload 5, 2) := by decide +kernel
theorem dX4_bestSet_151 : decode cX4_bestSet 151 = .ok (.istore_n 3, 1) := by decide +kernel
theorem dX4_bestSet_152 : decode cX4_bestSet 152 = .ok (.aload_n 0, 1) := by decide +kernel
theorem dX4_bestSet_153 : decode cX4_bestSet 153 = .ok (.aload_n 0, 1) := by decide +kernel
theorem dX4_bestSet_154 : decode cX4_bestSet 154 = .ok (.getfield 46, 3) := by decide +kernel
theorem dX4_bestSet_157 : decode cX4_bestSet 157 = .ok (.iload 5, 2) := by decide +kernel
theorem dX4_bestSet_159 : decode cX4_bestSet 159 = .ok (.iaload, 1) := by decide +kernel
theorem dX4_bestSet_160 : decode cX4_bestSet 160 = .ok (.putfield 139, 3) := by decide +kernel
theorem dX4_bestSet_163 : decode cX4_bestSet 163 = .ok (.aload_n 0, 1) := by decide +kernel
theorem dX4_bestSet_164 : decode cX4_bestSet 164 = .ok (.aload_n 0, 1) := by decide +kernel
theorem dX4_bestSet_165 : decode cX4_bestSet 165 = .ok (.getfield 43, 3) := by decide +kernel
theorem dX4_bestSet_168 : decode cX4_bestSet 168 = .ok (.iload 5, 2) := by decide +kernel
theorem dX4_bestSet_170 : decode cX4_bestSet 170 = .ok (.iaload, 1) := by decide +kernel
theorem dX4_bestSet_171 : decode cX4_bestSet 171 = .ok (.putfield 92, 3) := by decide +kernel
theorem dX4_bestSet_174 : decode cX4_bestSet 174 = .ok (.iinc 5 1, 3) := by decide +kernel
theorem dX4_bestSet_177 : decode cX4_bestSet 177 = .ok (.goto (-147), 3) := by decide +kernel
theorem dX4_bestSet_180 : decode cX4_bestSet 180 = .ok (.iload_n 3, 1) := by decide +kernel
theorem dX4_bestSet_181 : decode cX4_bestSet 181 = .ok (.ireturn, 1) := by decide +kernel
theorem dX4_worthOf_0 : decode cX4_worthOf 0 = .ok (.iconst 0, 1) := by decide +kernel
theorem dX4_worthOf_1 : decode cX4_worthOf 1 = .ok (.istore_n 1, 1) := by decide +kernel
theorem dX4_worthOf_2 : decode cX4_worthOf 2 = .ok (.iconst 0, 1) := by decide +kernel
theorem dX4_worthOf_3 : decode cX4_worthOf 3 = .ok (.istore_n 2, 1) := by decide +kernel
theorem dX4_worthOf_4 : decode cX4_worthOf 4 = .ok (.iload_n 2, 1) := by decide +kernel
theorem dX4_worthOf_5 : decode cX4_worthOf 5 = .ok (.iconst 4, 1) := by decide +kernel
theorem dX4_worthOf_6 : decode cX4_worthOf 6 = .ok (.if_icmp .ge 24, 3) := by decide +kernel
theorem dX4_worthOf_9 : decode cX4_worthOf 9 = .ok (.iload_n 0, 1) := by decide +kernel
theorem dX4_worthOf_10 : decode cX4_worthOf 10 = .ok (.iload_n 2, 1) := by decide +kernel
theorem dX4_worthOf_11 : decode cX4_worthOf 11 = .ok (.ishr, 1) := by decide +kernel
theorem dX4_worthOf_12 : decode cX4_worthOf 12 = .ok (.iconst 1, 1) := by decide +kernel
theorem dX4_worthOf_13 : decode cX4_worthOf 13 = .ok (.iand, 1) := by decide +kernel
theorem dX4_worthOf_14 : decode cX4_worthOf 14 = .ok (.iconst 1, 1) := by decide +kernel
theorem dX4_worthOf_15 : decode cX4_worthOf 15 = .ok (.if_icmp .ne 9, 3) := by decide +kernel
theorem dX4_worthOf_18 : decode cX4_worthOf 18 = .ok (.iload_n 1, 1) := by decide +kernel
theorem dX4_worthOf_19 : decode cX4_worthOf 19 = .ok (.iload_n 2, 1) := by decide +kernel
theorem dX4_worthOf_20 : decode cX4_worthOf 20 = .ok (.iconst 1, 1) := by decide +kernel
theorem dX4_worthOf_21 : decode cX4_worthOf 21 = .ok (.iadd, 1) := by decide +kernel
theorem dX4_worthOf_22 : decode cX4_worthOf 22 = .ok (.iadd, 1) := by decide +kernel
theorem dX4_worthOf_23 : decode cX4_worthOf 23 = .ok (.istore_n 1, 1) := by decide +kernel
theorem dX4_worthOf_24 : decode cX4_worthOf 24 = .ok (.iinc 2 1, 3) := by decide +kernel
theorem dX4_worthOf_27 : decode cX4_worthOf 27 = .ok (.goto (-23), 3) := by decide +kernel
theorem dX4_worthOf_30 : decode cX4_worthOf 30 = .ok (.iload_n 1, 1) := by decide +kernel
theorem dX4_worthOf_31 : decode cX4_worthOf 31 = .ok (.ireturn, 1) := by decide +kernel
theorem dX4_reckonLatest_0 : decode cX4_reckonLatest 0 = .ok (.iconst 0, 1) := by decide +kernel
theorem dX4_reckonLatest_1 : decode cX4_reckonLatest 1 = .ok (.istore_n 3, 1) := by decide +kernel
theorem dX4_reckonLatest_2 : decode cX4_reckonLatest 2 = .ok (.iload_n 3, 1) := by decide +kernel
theorem dX4_reckonLatest_3 : decode cX4_reckonLatest 3 = .ok (.iload_n 1, 1) := by decide +kernel
theorem dX4_reckonLatest_4 : decode cX4_reckonLatest 4 = .ok (.if_icmp .gt 76, 3) := by decide +kernel
theorem dX4_reckonLatest_7 : decode cX4_reckonLatest 7 = .ok (.iload_n 3, 1) := by decide +kernel
theorem dX4_reckonLatest_8 : decode cX4_reckonLatest 8 = .ok (.iload_n 1, 1) := by decide +kernel
theorem dX4_reckonLatest_9 : decode cX4_reckonLatest 9 = .ok (.iconst (-1), 1) := by decide +kernel
theorem dX4_reckonLatest_10 : decode cX4_reckonLatest 10 = .ok (.ixor, 1) := by decide +kernel
theorem dX4_reckonLatest_11 : decode cX4_reckonLatest 11 = .ok (.iand, 1) := by decide +kernel
theorem dX4_reckonLatest_12 : decode cX4_reckonLatest 12 = .ok (.ifCond .ne 62, 3) := by decide +kernel
theorem dX4_reckonLatest_15 : decode cX4_reckonLatest 15 = .ok (.iconst 0, 1) := by decide +kernel
theorem dX4_reckonLatest_16 : decode cX4_reckonLatest 16 = .ok (.istore 4, 2) := by decide +kernel
theorem dX4_reckonLatest_18 : decode cX4_reckonLatest 18 = .ok (.iload 4, 2) := by decide +kernel
theorem dX4_reckonLatest_20 : decode cX4_reckonLatest 20 = .ok (.aload_n 0, 1) := by decide +kernel
theorem dX4_reckonLatest_21 : decode cX4_reckonLatest 21 = .ok (.getfield 53, 3) := by decide +kernel
theorem dX4_reckonLatest_24 : decode cX4_reckonLatest 24 = .ok (.if_icmp .ge 50, 3) := by decide +kernel
theorem dX4_reckonLatest_27 : decode cX4_reckonLatest 27 = .ok (.iload_n 1, 1) := by decide +kernel
theorem dX4_reckonLatest_28 : decode cX4_reckonLatest 28 = .ok (.iload_n 3, 1) := by decide +kernel
theorem dX4_reckonLatest_29 : decode cX4_reckonLatest 29 = .ok (.iconst (-1), 1) := by decide +kernel
theorem dX4_reckonLatest_30 : decode cX4_reckonLatest 30 = .ok (.ixor, 1) := by decide +kernel
theorem dX4_reckonLatest_31 : decode cX4_reckonLatest 31 = .ok (.iand, 1) := by decide +kernel
theorem dX4_reckonLatest_32 : decode cX4_reckonLatest 32 = .ok (.iload 4, 2) := by decide +kernel
theorem dX4_reckonLatest_34 : decode cX4_reckonLatest 34 = .ok (.ishr, 1) := by decide +kernel
theorem dX4_reckonLatest_35 : decode cX4_reckonLatest 35 = .ok (.iconst 1, 1) := by decide +kernel
theorem dX4_reckonLatest_36 : decode cX4_reckonLatest 36 = .ok (.iand, 1) := by decide +kernel
theorem dX4_reckonLatest_37 : decode cX4_reckonLatest 37 = .ok (.iconst 1, 1) := by decide +kernel
theorem dX4_reckonLatest_38 : decode cX4_reckonLatest 38 = .ok (.if_icmp .ne 30, 3) := by decide +kernel
theorem dX4_reckonLatest_41 : decode cX4_reckonLatest 41 = .ok (.aload_n 0, 1) := by decide +kernel
theorem dX4_reckonLatest_42 : decode cX4_reckonLatest 42 = .ok (.getfield 40, 3) := by decide +kernel
theorem dX4_reckonLatest_45 : decode cX4_reckonLatest 45 = .ok (.iload_n 3, 1) := by decide +kernel
theorem dX4_reckonLatest_46 : decode cX4_reckonLatest 46 = .ok (.bipush 10, 2) := by decide +kernel
theorem dX4_reckonLatest_48 : decode cX4_reckonLatest 48 = .ok (.imul, 1) := by decide +kernel
theorem dX4_reckonLatest_49 : decode cX4_reckonLatest 49 = .ok (.iload 4, 2) := by decide +kernel
theorem dX4_reckonLatest_51 : decode cX4_reckonLatest 51 = .ok (.iadd, 1) := by decide +kernel
theorem dX4_reckonLatest_52 : decode cX4_reckonLatest 52 = .ok (.iload_n 3, 1) := by decide +kernel
theorem dX4_reckonLatest_53 : decode cX4_reckonLatest 53 = .ok (.ifCond .ne 7, 3) := by decide +kernel
theorem dX4_reckonLatest_56 : decode cX4_reckonLatest 56 = .ok (.iload_n 2, 1) := by decide +kernel
theorem dX4_reckonLatest_57 : decode cX4_reckonLatest 57 = .ok (.goto 10, 3) := by decide +kernel
theorem dX4_reckonLatest_60 : decode cX4_reckonLatest 60 = .ok (.aload_n 0, 1) := by decide +kernel
theorem dX4_reckonLatest_61 : decode cX4_reckonLatest 61 = .ok (.iload_n 3, 1) := by decide +kernel
theorem dX4_reckonLatest_62 : decode cX4_reckonLatest 62 = .ok (.iload 4, 2) := by decide +kernel
theorem dX4_reckonLatest_64 : decode cX4_reckonLatest 64 = .ok (.invokevirtual 151, 3) := by decide +kernel
theorem dX4_reckonLatest_67 : decode cX4_reckonLatest 67 = .ok (.iastore, 1) := by decide +kernel
theorem dX4_reckonLatest_68 : decode cX4_reckonLatest 68 = .ok (.iinc 4 1, 3) := by decide +kernel
theorem dX4_reckonLatest_71 : decode cX4_reckonLatest 71 = .ok (.goto (-53), 3) := by decide +kernel
theorem dX4_reckonLatest_74 : decode cX4_reckonLatest 74 = .ok (.iinc 3 1, 3) := by decide +kernel
theorem dX4_reckonLatest_77 : decode cX4_reckonLatest 77 = .ok (.goto (-75), 3) := by decide +kernel
theorem dX4_reckonLatest_80 : decode cX4_reckonLatest 80 = .ok (.return_, 1) := by decide +kernel
theorem dX4_latest_0 : decode cX4_latest 0 = .ok (.iconst (-1), 1) := by decide +kernel
theorem dX4_latest_1 : decode cX4_latest 1 = .ok (.istore_n 3, 1) := by decide +kernel
theorem dX4_latest_2 : decode cX4_latest 2 = .ok (.iconst 0, 1) := by decide +kernel
theorem dX4_latest_3 : decode cX4_latest 3 = .ok (.istore 4, 2) := by decide +kernel
theorem dX4_latest_5 : decode cX4_latest 5 = .ok (.iload 4, 2) := by decide +kernel
theorem dX4_latest_7 : decode cX4_latest 7 = .ok (.aload_n 0, 1) := by decide +kernel
theorem dX4_latest_8 : decode cX4_latest 8 = .ok (.getfield 53, 3) := by decide +kernel
theorem dX4_latest_11 : decode cX4_latest 11 = .ok (.if_icmp .ge 106, 3) := by decide +kernel
theorem dX4_latest_14 : decode cX4_latest 14 = .ok (.iload_n 1, 1) := by decide +kernel
theorem dX4_latest_15 : decode cX4_latest 15 = .ok (.iload 4, 2) := by decide +kernel
theorem dX4_latest_17 : decode cX4_latest 17 = .ok (.ishr, 1) := by decide +kernel
theorem dX4_latest_18 : decode cX4_latest 18 = .ok (.iconst 1, 1) := by decide +kernel
theorem dX4_latest_19 : decode cX4_latest 19 = .ok (.iand, 1) := by decide +kernel
theorem dX4_latest_20 : decode cX4_latest 20 = .ok (.iconst 1, 1) := by decide +kernel
theorem dX4_latest_21 : decode cX4_latest 21 = .ok (.if_icmp .ne 90, 3) := by decide +kernel
theorem dX4_latest_24 : decode cX4_latest 24 = .ok (.aload_n 0, 1) := by decide +kernel
theorem dX4_latest_25 : decode cX4_latest 25 = .ok (.getfield 22, 3) := by decide +kernel
theorem dX4_latest_28 : decode cX4_latest 28 = .ok (.iload 4, 2) := by decide +kernel
theorem dX4_latest_30 : decode cX4_latest 30 = .ok (.iaload, 1) := by decide +kernel
theorem dX4_latest_31 : decode cX4_latest 31 = .ok (.istore 5, 2) := by decide +kernel
theorem dX4_latest_33 : decode cX4_latest 33 = .ok (.aload_n 0, 1) := by decide +kernel
theorem dX4_latest_34 : decode cX4_latest 34 = .ok (.getfield 40, 3) := by decide +kernel
theorem dX4_latest_37 : decode cX4_latest 37 = .ok (.iload_n 1, 1) := by decide +kernel
theorem dX4_latest_38 : decode cX4_latest 38 = .ok (.iconst 1, 1) := by decide +kernel
theorem dX4_latest_39 : decode cX4_latest 39 = .ok (.iload 4, 2) := by decide +kernel
theorem dX4_latest_41 : decode cX4_latest 41 = .ok (.ishl, 1) := by decide +kernel
theorem dX4_latest_42 : decode cX4_latest 42 = .ok (.ixor, 1) := by decide +kernel
theorem dX4_latest_43 : decode cX4_latest 43 = .ok (.bipush 10, 2) := by decide +kernel
theorem dX4_latest_45 : decode cX4_latest 45 = .ok (.imul, 1) := by decide +kernel
theorem dX4_latest_46 : decode cX4_latest 46 = .ok (.iload 4, 2) := by decide +kernel
theorem dX4_latest_48 : decode cX4_latest 48 = .ok (.iadd, 1) := by decide +kernel
theorem dX4_latest_49 : decode cX4_latest 49 = .ok (.iaload, 1) := by decide +kernel
theorem dX4_latest_50 : decode cX4_latest 50 = .ok (.istore 6, 2) := by decide +kernel
theorem dX4_latest_52 : decode cX4_latest 52 = .ok (.iload 6, 2) := by decide +kernel
theorem dX4_latest_54 : decode cX4_latest 54 = .ok (.aload_n 0, 1) := by decide +kernel
theorem dX4_latest_55 : decode cX4_latest 55 = .ok (.getfield 31, 3) := by decide +kernel
theorem dX4_latest_58 : decode cX4_latest 58 = .ok (.iload 5, 2) := by decide +kernel
theorem dX4_latest_60 : decode cX4_latest 60 = .ok (.iaload, 1) := by decide +kernel
theorem dX4_latest_61 : decode cX4_latest 61 = .ok (.invokestatic 136, 3) := by decide +kernel
theorem dX4_latest_64 : decode cX4_latest 64 = .ok (.aload_n 0, 1) := by decide +kernel
theorem dX4_latest_65 : decode cX4_latest 65 = .ok (.getfield 34, 3) := by decide +kernel
theorem dX4_latest_68 : decode cX4_latest 68 = .ok (.iload 5, 2) := by decide +kernel
theorem dX4_latest_70 : decode cX4_latest 70 = .ok (.iaload, 1) := by decide +kernel
theorem dX4_latest_71 : decode cX4_latest 71 = .ok (.isub, 1) := by decide +kernel
theorem dX4_latest_72 : decode cX4_latest 72 = .ok (.istore 7, 2) := by decide +kernel
theorem dX4_latest_74 : decode cX4_latest 74 = .ok (.iload 7, 2) := by decide +kernel
theorem dX4_latest_76 : decode cX4_latest 76 = .ok (.aload_n 0, 1) := by decide +kernel
theorem dX4_latest_77 : decode cX4_latest 77 = .ok (.getfield 28, 3) := by decide +kernel
theorem dX4_latest_80 : decode cX4_latest 80 = .ok (.iload 5, 2) := by decide +kernel
theorem dX4_latest_82 : decode cX4_latest 82 = .ok (.iaload, 1) := by decide +kernel
theorem dX4_latest_83 : decode cX4_latest 83 = .ok (.if_icmp .lt 28, 3) := by decide +kernel
theorem dX4_latest_86 : decode cX4_latest 86 = .ok (.iload_n 3, 1) := by decide +kernel
theorem dX4_latest_87 : decode cX4_latest 87 = .ok (.iload 7, 2) := by decide +kernel
theorem dX4_latest_89 : decode cX4_latest 89 = .ok (.aload_n 0, 1) := by decide +kernel
theorem dX4_latest_90 : decode cX4_latest 90 = .ok (.getfield 37, 3) := by decide +kernel
theorem dX4_latest_93 : decode cX4_latest 93 = .ok (.aload_n 0, 1) := by decide +kernel
theorem dX4_latest_94 : decode cX4_latest 94 = .ok (.getfield 22, 3) := by decide +kernel
theorem dX4_latest_97 : decode cX4_latest 97 = .ok (.iload_n 2, 1) := by decide +kernel
theorem dX4_latest_98 : decode cX4_latest 98 = .ok (.iaload, 1) := by decide +kernel
theorem dX4_latest_99 : decode cX4_latest 99 = .ok (.bipush 16, 2) := by decide +kernel
theorem dX4_latest_101 : decode cX4_latest 101 = .ok (.imul, 1) := by decide +kernel
theorem dX4_latest_102 : decode cX4_latest 102 = .ok (.iload 5, 2) := by decide +kernel
theorem dX4_latest_104 : decode cX4_latest 104 = .ok (.iadd, 1) := by decide +kernel
theorem dX4_latest_105 : decode cX4_latest 105 = .ok (.iaload, 1) := by decide +kernel
theorem dX4_latest_106 : decode cX4_latest 106 = .ok (.isub, 1) := by decide +kernel
theorem dX4_latest_107 : decode cX4_latest 107 = .ok (.invokestatic 124, 3) := by decide +kernel
theorem dX4_latest_110 : decode cX4_latest 110 = .ok (.istore_n 3, 1) := by decide +kernel
theorem dX4_latest_111 : decode cX4_latest 111 = .ok (.iinc 4 1, 3) := by decide +kernel
theorem dX4_latest_114 : decode cX4_latest 114 = .ok (.goto (-109), 3) := by decide +kernel
theorem dX4_latest_117 : decode cX4_latest 117 = .ok (.iload_n 3, 1) := by decide +kernel
theorem dX4_latest_118 : decode cX4_latest 118 = .ok (.ireturn, 1) := by decide +kernel
theorem dX4_putInOrder_0 : decode cX4_putInOrder 0 = .ok (.aload_n 0, 1) := by decide +kernel
theorem dX4_putInOrder_1 : decode cX4_putInOrder 1 = .ok (.iconst 0, 1) := by decide +kernel
theorem dX4_putInOrder_2 : decode cX4_putInOrder 2 = .ok (.putfield 154, 3) := by decide +kernel
theorem dX4_putInOrder_5 : decode cX4_putInOrder 5 = .ok (.iload_n 2, 1) := by decide +kernel
theorem dX4_putInOrder_6 : decode cX4_putInOrder 6 = .ok (.istore_n 3, 1) := by decide +kernel
theorem dX4_putInOrder_7 : decode cX4_putInOrder 7 = .ok (.iload_n 1, 1) := by decide +kernel
theorem dX4_putInOrder_8 : decode cX4_putInOrder 8 = .ok (.istore 4, 2) := by decide +kernel
theorem dX4_putInOrder_10 : decode cX4_putInOrder 10 = .ok (.iconst 0, 1) := by decide +kernel
theorem dX4_putInOrder_11 : decode cX4_putInOrder 11 = .ok (.istore 5, 2) := by decide +kernel
theorem dX4_putInOrder_13 : decode cX4_putInOrder 13 = .ok (.iconst 0, 1) := by decide +kernel
theorem dX4_putInOrder_14 : decode cX4_putInOrder 14 = .ok (.istore 6, 2) := by decide +kernel
theorem dX4_putInOrder_16 : decode cX4_putInOrder 16 = .ok (.iload 6, 2) := by decide +kernel
theorem dX4_putInOrder_18 : decode cX4_putInOrder 18 = .ok (.aload_n 0, 1) := by decide +kernel
theorem dX4_putInOrder_19 : decode cX4_putInOrder 19 = .ok (.getfield 53, 3) := by decide +kernel
theorem dX4_putInOrder_22 : decode cX4_putInOrder 22 = .ok (.if_icmp .ge 148, 3) := by decide +kernel
theorem dX4_putInOrder_25 : decode cX4_putInOrder 25 = .ok (.iload_n 3, 1) := by decide +kernel
theorem dX4_putInOrder_26 : decode cX4_putInOrder 26 = .ok (.ifCond .eq 144, 3) := by decide +kernel
theorem dX4_putInOrder_29 : decode cX4_putInOrder 29 = .ok (.iconst 0, 1) := by decide +kernel
theorem dX4_putInOrder_30 : decode cX4_putInOrder 30 = .ok (.istore 7, 2) := by decide +kernel
theorem dX4_putInOrder_32 : decode cX4_putInOrder 32 = .ok (.iload 7, 2) := by decide +kernel
theorem dX4_putInOrder_34 : decode cX4_putInOrder 34 = .ok (.aload_n 0, 1) := by decide +kernel
theorem dX4_putInOrder_35 : decode cX4_putInOrder 35 = .ok (.getfield 53, 3) := by decide +kernel
theorem dX4_putInOrder_38 : decode cX4_putInOrder 38 = .ok (.if_icmp .ge 126, 3) := by decide +kernel
theorem dX4_putInOrder_41 : decode cX4_putInOrder 41 = .ok (.iload_n 3, 1) := by decide +kernel
theorem dX4_putInOrder_42 : decode cX4_putInOrder 42 = .ok (.iload 7, 2) := by decide +kernel
theorem dX4_putInOrder_44 : decode cX4_putInOrder 44 = .ok (.ishr, 1) := by decide +kernel
theorem dX4_putInOrder_45 : decode cX4_putInOrder 45 = .ok (.iconst 1, 1) := by decide +kernel
theorem dX4_putInOrder_46 : decode cX4_putInOrder 46 = .ok (.iand, 1) := by decide +kernel
theorem dX4_putInOrder_47 : decode cX4_putInOrder 47 = .ok (.ifCond .ne 6, 3) := by decide +kernel
theorem dX4_putInOrder_50 : decode cX4_putInOrder 50 = .ok (.goto 108, 3) := by decide +kernel
theorem dX4_putInOrder_53 : decode cX4_putInOrder 53 = .ok (.aload_n 0, 1) := by decide +kernel
theorem dX4_putInOrder_54 : decode cX4_putInOrder 54 = .ok (.aload_n 0, 1) := by decide +kernel
theorem dX4_putInOrder_55 : decode cX4_putInOrder 55 = .ok (.getfield 22, 3) := by decide +kernel
theorem dX4_putInOrder_58 : decode cX4_putInOrder 58 = .ok (.iload 7, 2) := by decide +kernel
theorem dX4_putInOrder_60 : decode cX4_putInOrder 60 = .ok (.iaload, 1) := by decide +kernel
theorem dX4_putInOrder_61 : decode cX4_putInOrder 61 = .ok (.iload 5, 2) := by decide +kernel
