theorem dX4_reckonMinutes_32 : decode cX4_reckonMinutes 32 = .ok (.ixor, 1) := dk_130 (by decide +kernel)
theorem dX4_reckonMinutes_33 : decode cX4_reckonMinutes 33 = .ok (.iand, 1) := dk_126 (by decide +kernel)
theorem dX4_reckonMinutes_34 : decode cX4_reckonMinutes 34 = .ok (.ifCond .ne 88, 3) := dk_154 (a := 0) (b := 88) (by decide +kernel) (by decide +kernel)
theorem dX4_reckonMinutes_37 : decode cX4_reckonMinutes 37 = .ok (.iconst 0, 1) := dk_3 (by decide +kernel)
theorem dX4_reckonMinutes_38 : decode cX4_reckonMinutes 38 = .ok (.istore 6, 2) := dk_54 (a := 6) (by decide +kernel)
theorem dX4_reckonMinutes_40 : decode cX4_reckonMinutes 40 = .ok (.iload 6, 2) := dk_21 (a := 6) (by decide +kernel)
theorem dX4_reckonMinutes_42 : decode cX4_reckonMinutes 42 = .ok (.aload_n 0, 1) := dk_42 (by decide +kernel)
theorem dX4_reckonMinutes_43 : decode cX4_reckonMinutes 43 = .ok (.getfield 53, 3) := dk_180 (a := 0) (b := 53) (by decide +kernel) rfl
theorem dX4_reckonMinutes_46 : decode cX4_reckonMinutes 46 = .ok (.if_icmp .ge 76, 3) := dk_162 (a := 0) (b := 76) (by decide +kernel) (by decide +kernel)
theorem dX4_reckonMinutes_49 : decode cX4_reckonMinutes 49 = .ok (.iload 4, 2) := dk_21 (a := 4) (by decide +kernel)
theorem dX4_reckonMinutes_51 : decode cX4_reckonMinutes 51 = .ok (.iload 6, 2) := dk_21 (a := 6) (by decide +kernel)
theorem dX4_reckonMinutes_53 : decode cX4_reckonMinutes 53 = .ok (.ishr, 1) := dk_122 (by decide +kernel)
theorem dX4_reckonMinutes_54 : decode cX4_reckonMinutes 54 = .ok (.iconst 1, 1) := dk_4 (by decide +kernel)
theorem dX4_reckonMinutes_55 : decode cX4_reckonMinutes 55 = .ok (.iand, 1) := dk_126 (by decide +kernel)
theorem dX4_reckonMinutes_56 : decode cX4_reckonMinutes 56 = .ok (.iconst 1, 1) := dk_4 (by decide +kernel)
theorem dX4_reckonMinutes_57 : decode cX4_reckonMinutes 57 = .ok (.if_icmp .ne 59, 3) := dk_160 (a := 0) (b := 59) (by decide +kernel) (by decide +kernel)
theorem dX4_reckonMinutes_60 : decode cX4_reckonMinutes 60 = .ok (.aload_n 0, 1) := dk_42 (by decide +kernel)
theorem dX4_reckonMinutes_61 : decode cX4_reckonMinutes 61 = .ok (.aload_n 0, 1) := dk_42 (by decide +kernel)
theorem dX4_reckonMinutes_62 : decode cX4_reckonMinutes 62 = .ok (.getfield 22, 3) := dk_180 (a := 0) (b := 22) (by decide +kernel) rfl
theorem dX4_reckonMinutes_65 : decode cX4_reckonMinutes 65 = .ok (.iload 6, 2) := dk_21 (a := 6) (by decide +kernel)
theorem dX4_reckonMinutes_67 : decode cX4_reckonMinutes 67 = .ok (.iaload, 1) := dk_46 (by decide +kernel)
theorem dX4_reckonMinutes_68 : decode cX4_reckonMinutes 68 = .ok (.aload_n 0, 1) := dk_42 (by decide +kernel)
theorem dX4_reckonMinutes_69 : decode cX4_reckonMinutes 69 = .ok (.iload_n 1, 1) := dk_27 (by decide +kernel)
theorem dX4_reckonMinutes_70 : decode cX4_reckonMinutes 70 = .ok (.iload 4, 2) := dk_21 (a := 4) (by decide +kernel)
theorem dX4_reckonMinutes_72 : decode cX4_reckonMinutes 72 = .ok (.iconst 1, 1) := dk_4 (by decide +kernel)
theorem dX4_reckonMinutes_73 : decode cX4_reckonMinutes 73 = .ok (.iload 6, 2) := dk_21 (a := 6) (by decide +kernel)
theorem dX4_reckonMinutes_75 : decode cX4_reckonMinutes 75 = .ok (.ishl, 1) := dk_120 (by decide +kernel)
theorem dX4_reckonMinutes_76 : decode cX4_reckonMinutes 76 = .ok (.ixor, 1) := dk_130 (by decide +kernel)
theorem dX4_reckonMinutes_77 : decode cX4_reckonMinutes 77 = .ok (.aload_n 0, 1) := dk_42 (by decide +kernel)
theorem dX4_reckonMinutes_78 : decode cX4_reckonMinutes 78 = .ok (.getfield 22, 3) := dk_180 (a := 0) (b := 22) (by decide +kernel) rfl
theorem dX4_reckonMinutes_81 : decode cX4_reckonMinutes 81 = .ok (.iload 6, 2) := dk_21 (a := 6) (by decide +kernel)
theorem dX4_reckonMinutes_83 : decode cX4_reckonMinutes 83 = .ok (.iaload, 1) := dk_46 (by decide +kernel)
theorem dX4_reckonMinutes_84 : decode cX4_reckonMinutes 84 = .ok (.invokevirtual 129, 3) := dk_182 (a := 0) (b := 129) (by decide +kernel) rfl
theorem dX4_reckonMinutes_87 : decode cX4_reckonMinutes 87 = .ok (.invokevirtual 133, 3) := dk_182 (a := 0) (b := 133) (by decide +kernel) rfl
theorem dX4_reckonMinutes_90 : decode cX4_reckonMinutes 90 = .ok (.istore 7, 2) := dk_54 (a := 7) (by decide +kernel)
theorem dX4_reckonMinutes_92 : decode cX4_reckonMinutes 92 = .ok (.aload_n 0, 1) := dk_42 (by decide +kernel)
theorem dX4_reckonMinutes_93 : decode cX4_reckonMinutes 93 = .ok (.getfield 40, 3) := dk_180 (a := 0) (b := 40) (by decide +kernel) rfl
theorem dX4_reckonMinutes_96 : decode cX4_reckonMinutes 96 = .ok (.iload 4, 2) := dk_21 (a := 4) (by decide +kernel)
theorem dX4_reckonMinutes_98 : decode cX4_reckonMinutes 98 = .ok (.bipush 10, 2) := dk_16 (a := 10) (by decide +kernel) (by decide +kernel)
theorem dX4_reckonMinutes_100 : decode cX4_reckonMinutes 100 = .ok (.imul, 1) := dk_104 (by decide +kernel)
theorem dX4_reckonMinutes_101 : decode cX4_reckonMinutes 101 = .ok (.iload 6, 2) := dk_21 (a := 6) (by decide +kernel)
theorem dX4_reckonMinutes_103 : decode cX4_reckonMinutes 103 = .ok (.iadd, 1) := dk_96 (by decide +kernel)
theorem dX4_reckonMinutes_104 : decode cX4_reckonMinutes 104 = .ok (.iload 7, 2) := dk_21 (a := 7) (by decide +kernel)
theorem dX4_reckonMinutes_106 : decode cX4_reckonMinutes 106 = .ok (.iastore, 1) := dk_79 (by decide +kernel)
theorem dX4_reckonMinutes_107 : decode cX4_reckonMinutes 107 = .ok (.iload 5, 2) := dk_21 (a := 5) (by decide +kernel)
theorem dX4_reckonMinutes_109 : decode cX4_reckonMinutes 109 = .ok (.iload 7, 2) := dk_21 (a := 7) (by decide +kernel)
theorem dX4_reckonMinutes_111 : decode cX4_reckonMinutes 111 = .ok (.invokestatic 136, 3) := dk_184 (a := 0) (b := 136) (by decide +kernel) rfl
theorem dX4_reckonMinutes_114 : decode cX4_reckonMinutes 114 = .ok (.istore 5, 2) := dk_54 (a := 5) (by decide +kernel)
theorem dX4_reckonMinutes_116 : decode cX4_reckonMinutes 116 = .ok (.iinc 6 1, 3) := dk_132 (a := 6) (b := 1) (by decide +kernel) (by decide +kernel)
theorem dX4_reckonMinutes_119 : decode cX4_reckonMinutes 119 = .ok (.goto (-79), 3) := dk_167 (a := 255) (b := 177) (by decide +kernel) (by decide +kernel)
theorem dX4_reckonMinutes_122 : decode cX4_reckonMinutes 122 = .ok (.aload_n 0, 1) := dk_42 (by decide +kernel)
theorem dX4_reckonMinutes_123 : decode cX4_reckonMinutes 123 = .ok (.getfield 43, 3) := dk_180 (a := 0) (b := 43) (by decide +kernel) rfl
theorem dX4_reckonMinutes_126 : decode cX4_reckonMinutes 126 = .ok (.iload 4, 2) := dk_21 (a := 4) (by decide +kernel)
theorem dX4_reckonMinutes_128 : decode cX4_reckonMinutes 128 = .ok (.iload 5, 2) := dk_21 (a := 5) (by decide +kernel)
theorem dX4_reckonMinutes_130 : decode cX4_reckonMinutes 130 = .ok (.iastore, 1) := dk_79 (by decide +kernel)
theorem dX4_reckonMinutes_131 : decode cX4_reckonMinutes 131 = .ok (.iinc 4 1, 3) := dk_132 (a := 4) (b := 1) (by decide +kernel) (by decide +kernel)
theorem dX4_reckonMinutes_134 : decode cX4_reckonMinutes 134 = .ok (.goto (-117), 3) := dk_167 (a := 255) (b := 139) (by decide +kernel) (by decide +kernel)
theorem dX4_reckonMinutes_137 : decode cX4_reckonMinutes 137 = .ok (.return_, 1) := dk_177 (by decide +kernel)
theorem dX4_arrival_0 : decode cX4_arrival 0 = .ok (.iload_n 2, 1) := dk_28 (by decide +kernel)
theorem dX4_arrival_1 : decode cX4_arrival 1 = .ok (.ifCond .ne 15, 3) := dk_154 (a := 0) (b := 15) (by decide +kernel) (by decide +kernel)
theorem dX4_arrival_4 : decode cX4_arrival 4 = .ok (.aload_n 0, 1) := dk_42 (by decide +kernel)
theorem dX4_arrival_5 : decode cX4_arrival 5 = .ok (.getfield 37, 3) := dk_180 (a := 0) (b := 37) (by decide +kernel) rfl
theorem dX4_arrival_8 : decode cX4_arrival 8 = .ok (.iload_n 1, 1) := dk_27 (by decide +kernel)
theorem dX4_arrival_9 : decode cX4_arrival 9 = .ok (.bipush 16, 2) := dk_16 (a := 16) (by decide +kernel) (by decide +kernel)
theorem dX4_arrival_11 : decode cX4_arrival 11 = .ok (.imul, 1) := dk_104 (by decide +kernel)
theorem dX4_arrival_12 : decode cX4_arrival 12 = .ok (.iload_n 3, 1) := dk_29 (by decide +kernel)
theorem dX4_arrival_13 : decode cX4_arrival 13 = .ok (.iadd, 1) := dk_96 (by decide +kernel)
theorem dX4_arrival_14 : decode cX4_arrival 14 = .ok (.iaload, 1) := dk_46 (by decide +kernel)
theorem dX4_arrival_15 : decode cX4_arrival 15 = .ok (.ireturn, 1) := dk_172 (by decide +kernel)
theorem dX4_arrival_16 : decode cX4_arrival 16 = .ok (.aload_n 0, 1) := dk_42 (by decide +kernel)
theorem dX4_arrival_17 : decode cX4_arrival 17 = .ok (.getfield 43, 3) := dk_180 (a := 0) (b := 43) (by decide +kernel) rfl
theorem dX4_arrival_20 : decode cX4_arrival 20 = .ok (.iload_n 2, 1) := dk_28 (by decide +kernel)
theorem dX4_arrival_21 : decode cX4_arrival 21 = .ok (.iaload, 1) := dk_46 (by decide +kernel)
theorem dX4_arrival_22 : decode cX4_arrival 22 = .ok (.sipush 1000, 3) := dk_17 (a := 3) (b := 232) (by decide +kernel) (by decide +kernel)
theorem dX4_arrival_25 : decode cX4_arrival 25 = .ok (.if_icmp .lt 7, 3) := dk_161 (a := 0) (b := 7) (by decide +kernel) (by decide +kernel)
theorem dX4_arrival_28 : decode cX4_arrival 28 = .ok (.sipush 1000, 3) := dk_17 (a := 3) (b := 232) (by decide +kernel) (by decide +kernel)
theorem dX4_arrival_31 : decode cX4_arrival 31 = .ok (.ireturn, 1) := dk_172 (by decide +kernel)
theorem dX4_arrival_32 : decode cX4_arrival 32 = .ok (.sipush 1000, 3) := dk_17 (a := 3) (b := 232) (by decide +kernel) (by decide +kernel)
theorem dX4_arrival_35 : decode cX4_arrival 35 = .ok (.istore 4, 2) := dk_54 (a := 4) (by decide +kernel)
theorem dX4_arrival_37 : decode cX4_arrival 37 = .ok (.iconst 0, 1) := dk_3 (by decide +kernel)
theorem dX4_arrival_38 : decode cX4_arrival 38 = .ok (.istore 5, 2) := dk_54 (a := 5) (by decide +kernel)
theorem dX4_arrival_40 : decode cX4_arrival 40 = .ok (.iload 5, 2) := dk_21 (a := 5) (by decide +kernel)
theorem dX4_arrival_42 : decode cX4_arrival 42 = .ok (.aload_n 0, 1) := dk_42 (by decide +kernel)
theorem dX4_arrival_43 : decode cX4_arrival 43 = .ok (.getfield 53, 3) := dk_180 (a := 0) (b := 53) (by decide +kernel) rfl
theorem dX4_arrival_46 : decode cX4_arrival 46 = .ok (.if_icmp .ge 60, 3) := dk_162 (a := 0) (b := 60) (by decide +kernel) (by decide +kernel)
theorem dX4_arrival_49 : decode cX4_arrival 49 = .ok (.iload_n 2, 1) := dk_28 (by decide +kernel)
theorem dX4_arrival_50 : decode cX4_arrival 50 = .ok (.iload 5, 2) := dk_21 (a := 5) (by decide +kernel)
theorem dX4_arrival_52 : decode cX4_arrival 52 = .ok (.ishr, 1) := dk_122 (by decide +kernel)
theorem dX4_arrival_53 : decode cX4_arrival 53 = .ok (.iconst 1, 1) := dk_4 (by decide +kernel)
theorem dX4_arrival_54 : decode cX4_arrival 54 = .ok (.iand, 1) := dk_126 (by decide +kernel)
theorem dX4_arrival_55 : decode cX4_arrival 55 = .ok (.iconst 1, 1) := dk_4 (by decide +kernel)
theorem dX4_arrival_56 : decode cX4_arrival 56 = .ok (.if_icmp .ne 44, 3) := dk_160 (a := 0) (b := 44) (by decide +kernel) (by decide +kernel)
theorem dX4_arrival_59 : decode cX4_arrival 59 = .ok (.aload_n 0, 1) := dk_42 (by decide +kernel)
theorem dX4_arrival_60 : decode cX4_arrival 60 = .ok (.getfield 40, 3) := dk_180 (a := 0) (b := 40) (by decide +kernel) rfl
theorem dX4_arrival_63 : decode cX4_arrival 63 = .ok (.iload_n 2, 1) := dk_28 (by decide +kernel)
theorem dX4_arrival_64 : decode cX4_arrival 64 = .ok (.bipush 10, 2) := dk_16 (a := 10) (by decide +kernel) (by decide +kernel)
theorem dX4_arrival_66 : decode cX4_arrival 66 = .ok (.imul, 1) := dk_104 (by decide +kernel)
theorem dX4_arrival_67 : decode cX4_arrival 67 = .ok (.iload 5, 2) := dk_21 (a := 5) (by decide +kernel)
theorem dX4_arrival_69 : decode cX4_arrival 69 = .ok (.iadd, 1) := dk_96 (by decide +kernel)
theorem dX4_arrival_70 : decode cX4_arrival 70 = .ok (.iaload, 1) := dk_46 (by decide +kernel)
theorem dX4_arrival_71 : decode cX4_arrival 71 = .ok (.aload_n 0, 1) := dk_42 (by decide +kernel)
theorem dX4_arrival_72 : decode cX4_arrival 72 = .ok (.getfield 37, 3) := dk_180 (a := 0) (b := 37) (by decide +kernel) rfl
theorem dX4_arrival_75 : decode cX4_arrival 75 = .ok (.aload_n 0, 1) := dk_42 (by decide +kernel)
theorem dX4_arrival_76 : decode cX4_arrival 76 = .ok (.getfield 22, 3) := dk_180 (a := 0) (b := 22) (by decide +kernel) rfl
theorem dX4_arrival_79 : decode cX4_arrival 79 = .ok (.iload 5, 2) := dk_21 (a := 5) (by decide +kernel)
theorem dX4_arrival_81 : decode cX4_arrival 81 = .ok (.iaload, 1) := dk_46 (by decide +kernel)
theorem dX4_arrival_82 : decode cX4_arrival 82 = .ok (.bipush 16, 2) := dk_16 (a := 16) (by decide +kernel) (by decide +kernel)
theorem dX4_arrival_84 : decode cX4_arrival 84 = .ok (.imul, 1) := dk_104 (by decide +kernel)
theorem dX4_arrival_85 : decode cX4_arrival 85 = .ok (.iload_n 3, 1) := dk_29 (by decide +kernel)
theorem dX4_arrival_86 : decode cX4_arrival 86 = .ok (.iadd, 1) := dk_96 (by decide +kernel)
theorem dX4_arrival_87 : decode cX4_arrival 87 = .ok (.iaload, 1) := dk_46 (by decide +kernel)
theorem dX4_arrival_88 : decode cX4_arrival 88 = .ok (.iadd, 1) := dk_96 (by decide +kernel)
theorem dX4_arrival_89 : decode cX4_arrival 89 = .ok (.istore 6, 2) := dk_54 (a := 6) (by decide +kernel)
theorem dX4_arrival_91 : decode cX4_arrival 91 = .ok (.iload 4, 2) := dk_21 (a := 4) (by decide +kernel)
theorem dX4_arrival_93 : decode cX4_arrival 93 = .ok (.iload 6, 2) := dk_21 (a := 6) (by decide +kernel)
theorem dX4_arrival_95 : decode cX4_arrival 95 = .ok (.invokestatic 136, 3) := dk_184 (a := 0) (b := 136) (by decide +kernel) rfl
theorem dX4_arrival_98 : decode cX4_arrival 98 = .ok (.istore 4, 2) := dk_54 (a := 4) (by decide +kernel)
theorem dX4_arrival_100 : decode cX4_arrival 100 = .ok (.iinc 5 1, 3) := dk_132 (a := 5) (b := 1) (by decide +kernel) (by decide +kernel)
theorem dX4_arrival_103 : decode cX4_arrival 103 = .ok (.goto (-63), 3) := dk_167 (a := 255) (b := 193) (by decide +kernel) (by decide +kernel)
theorem dX4_arrival_106 : decode cX4_arrival 106 = .ok (.iload 4, 2) := dk_21 (a := 4) (by decide +kernel)
theorem dX4_arrival_108 : decode cX4_arrival 108 = .ok (.ireturn, 1) := dk_172 (by decide +kernel)
theorem dX4_bestSet_0 : decode cX4_bestSet 0 = .ok (.aload_n 0, 1) := dk_42 (by decide +kernel)
theorem dX4_bestSet_1 : decode cX4_bestSet 1 = .ok (.iconst 0, 1) := dk_3 (by decide +kernel)
theorem dX4_bestSet_2 : decode cX4_bestSet 2 = .ok (.putfield 139, 3) := dk_181 (a := 0) (b := 139) (by decide +kernel) rfl
theorem dX4_bestSet_5 : decode cX4_bestSet 5 = .ok (.aload_n 0, 1) := dk_42 (by decide +kernel)
theorem dX4_bestSet_6 : decode cX4_bestSet 6 = .ok (.iconst 0, 1) := dk_3 (by decide +kernel)
theorem dX4_bestSet_7 : decode cX4_bestSet 7 = .ok (.putfield 92, 3) := dk_181 (a := 0) (b := 92) (by decide +kernel) rfl
theorem dX4_bestSet_10 : decode cX4_bestSet 10 = .ok (.iconst 0, 1) := dk_3 (by decide +kernel)
theorem dX4_bestSet_11 : decode cX4_bestSet 11 = .ok (.istore_n 3, 1) := dk_62 (by decide +kernel)
theorem dX4_bestSet_12 : decode cX4_bestSet 12 = .ok (.iconst 1, 1) := dk_4 (by decide +kernel)
theorem dX4_bestSet_13 : decode cX4_bestSet 13 = .ok (.aload_n 0, 1) := dk_42 (by decide +kernel)
theorem dX4_bestSet_14 : decode cX4_bestSet 14 = .ok (.getfield 53, 3) := dk_180 (a := 0) (b := 53) (by decide +kernel) rfl
theorem dX4_bestSet_17 : decode cX4_bestSet 17 = .ok (.ishl, 1) := dk_120 (by decide +kernel)
theorem dX4_bestSet_18 : decode cX4_bestSet 18 = .ok (.istore 4, 2) := dk_54 (a := 4) (by decide +kernel)
theorem dX4_bestSet_20 : decode cX4_bestSet 20 = .ok (.aload_n 0, 1) := dk_42 (by decide +kernel)
theorem dX4_bestSet_21 : decode cX4_bestSet 21 = .ok (.getfield 46, 3) := dk_180 (a := 0) (b := 46) (by decide +kernel) rfl
theorem dX4_bestSet_24 : decode cX4_bestSet 24 = .ok (.iconst 0, 1) := dk_3 (by decide +kernel)
theorem dX4_bestSet_25 : decode cX4_bestSet 25 = .ok (.iconst 0, 1) := dk_3 (by decide +kernel)
theorem dX4_bestSet_26 : decode cX4_bestSet 26 = .ok (.iastore, 1) := dk_79 (by decide +kernel)
theorem dX4_bestSet_27 : decode cX4_bestSet 27 = .ok (.iconst 1, 1) := dk_4 (by decide +kernel)
theorem dX4_bestSet_28 : decode cX4_bestSet 28 = .ok (.istore 5, 2) := dk_54 (a := 5) (by decide +kernel)
theorem dX4_bestSet_30 : decode cX4_bestSet 30 = .ok (.iload 5, 2) := dk_21 (a := 5) (by decide +kernel)
theorem dX4_bestSet_32 : decode cX4_bestSet 32 = .ok (.iload 4, 2) := dk_21 (a := 4) (by decide +kernel)
theorem dX4_bestSet_34 : decode cX4_bestSet 34 = .ok (.if_icmp .ge 146, 3) := dk_162 (a := 0) (b := 146) (by decide +kernel) (by decide +kernel)
theorem dX4_bestSet_37 : decode cX4_bestSet 37 = .ok (.iload 5, 2) := dk_21 (a := 5) (by decide +kernel)
theorem dX4_bestSet_39 : decode cX4_bestSet 39 = .ok (.invokestatic 142, 3) := dk_184 (a := 0) (b := 142) (by decide +kernel) rfl
theorem dX4_bestSet_42 : decode cX4_bestSet 42 = .ok (.istore 6, 2) := dk_54 (a := 6) (by decide +kernel)
theorem dX4_bestSet_44 : decode cX4_bestSet 44 = .ok (.aload_n 0, 1) := dk_42 (by decide +kernel)
theorem dX4_bestSet_45 : decode cX4_bestSet 45 = .ok (.getfield 46, 3) := dk_180 (a := 0) (b := 46) (by decide +kernel) rfl
theorem dX4_bestSet_48 : decode cX4_bestSet 48 = .ok (.iload 5, 2) := dk_21 (a := 5) (by decide +kernel)
theorem dX4_bestSet_50 : decode cX4_bestSet 50 = .ok (.aload_n 0, 1) := dk_42 (by decide +kernel)
theorem dX4_bestSet_51 : decode cX4_bestSet 51 = .ok (.getfield 46, 3) := dk_180 (a := 0) (b := 46) (by decide +kernel) rfl
theorem dX4_bestSet_54 : decode cX4_bestSet 54 = .ok (.iload 5, 2) := dk_21 (a := 5) (by decide +kernel)
theorem dX4_bestSet_56 : decode cX4_bestSet 56 = .ok (.iload 5, 2) := dk_21 (a := 5) (by decide +kernel)
theorem dX4_bestSet_58 : decode cX4_bestSet 58 = .ok (.iconst 1, 1) := dk_4 (by decide +kernel)
theorem dX4_bestSet_59 : decode cX4_bestSet 59 = .ok (.isub, 1) := dk_100 (by decide +kernel)
theorem dX4_bestSet_60 : decode cX4_bestSet 60 = .ok (.iand, 1) := dk_126 (by decide +kernel)
theorem dX4_bestSet_61 : decode cX4_bestSet 61 = .ok (.iaload, 1) := dk_46 (by decide +kernel)
theorem dX4_bestSet_62 : decode cX4_bestSet 62 = .ok (.aload_n 1, 1) := dk_43 (by decide +kernel)
theorem dX4_bestSet_63 : decode cX4_bestSet 63 = .ok (.getfield 67, 3) := dk_180 (a := 0) (b := 67) (by decide +kernel) rfl
theorem dX4_bestSet_66 : decode cX4_bestSet 66 = .ok (.iload_n 2, 1) := dk_28 (by decide +kernel)
theorem dX4_bestSet_67 : decode cX4_bestSet 67 = .ok (.aload_n 0, 1) := dk_42 (by decide +kernel)
theorem dX4_bestSet_68 : decode cX4_bestSet 68 = .ok (.getfield 22, 3) := dk_180 (a := 0) (b := 22) (by decide +kernel) rfl
theorem dX4_bestSet_71 : decode cX4_bestSet 71 = .ok (.iload 6, 2) := dk_21 (a := 6) (by decide +kernel)
theorem dX4_bestSet_73 : decode cX4_bestSet 73 = .ok (.iaload, 1) := dk_46 (by decide +kernel)
theorem dX4_bestSet_74 : decode cX4_bestSet 74 = .ok (.invokevirtual 71, 3) := dk_182 (a := 0) (b := 71) (by decide +kernel) rfl
theorem dX4_bestSet_77 : decode cX4_bestSet 77 = .ok (.invokestatic 148, 3) := dk_184 (a := 0) (b := 148) (by decide +kernel) rfl
theorem dX4_bestSet_80 : decode cX4_bestSet 80 = .ok (.iadd, 1) := dk_96 (by decide +kernel)
theorem dX4_bestSet_81 : decode cX4_bestSet 81 = .ok (.iastore, 1) := dk_79 (by decide +kernel)
theorem dX4_bestSet_82 : decode cX4_bestSet 82 = .ok (.aload_n 0, 1) := dk_42 (by decide +kernel)
theorem dX4_bestSet_83 : decode cX4_bestSet 83 = .ok (.getfield 46, 3) := dk_180 (a := 0) (b := 46) (by decide +kernel) rfl
theorem dX4_bestSet_86 : decode cX4_bestSet 86 = .ok (.iload 5, 2) := dk_21 (a := 5) (by decide +kernel)
theorem dX4_bestSet_88 : decode cX4_bestSet 88 = .ok (.iaload, 1) := dk_46 (by decide +kernel)
theorem dX4_bestSet_89 : decode cX4_bestSet 89 = .ok (.aload_n 0, 1) := dk_42 (by decide +kernel)
theorem dX4_bestSet_90 : decode cX4_bestSet 90 = .ok (.getfield 139, 3) := dk_180 (a := 0) (b := 139) (by decide +kernel) rfl
theorem dX4_bestSet_93 : decode cX4_bestSet 93 = .ok (.if_icmp .ne 21, 3) := dk_160 (a := 0) (b := 21) (by decide +kernel) (by decide +kernel)
theorem dX4_bestSet_96 : decode cX4_bestSet 96 = .ok (.aload_n 0, 1) := dk_42 (by decide +kernel)
theorem dX4_bestSet_97 : decode cX4_bestSet 97 = .ok (.getfield 43, 3) := dk_180 (a := 0) (b := 43) (by decide +kernel) rfl
theorem dX4_bestSet_100 : decode cX4_bestSet 100 = .ok (.iload 5, 2) := dk_21 (a := 5) (by decide +kernel)
theorem dX4_bestSet_102 : decode cX4_bestSet 102 = .ok (.iaload, 1) := dk_46 (by decide +kernel)
theorem dX4_bestSet_103 : decode cX4_bestSet 103 = .ok (.aload_n 0, 1) := dk_42 (by decide +kernel)
theorem dX4_bestSet_104 : decode cX4_bestSet 104 = .ok (.getfield 92, 3) := dk_180 (a := 0) (b := 92) (by decide +kernel) rfl
theorem dX4_bestSet_107 : decode cX4_bestSet 107 = .ok (.if_icmp .ge 7, 3) := dk_162 (a := 0) (b := 7) (by decide +kernel) (by decide +kernel)
theorem dX4_bestSet_110 : decode cX4_bestSet 110 = .ok (.iconst 1, 1) := dk_4 (by decide +kernel)
theorem dX4_bestSet_111 : decode cX4_bestSet 111 = .ok (.goto 4, 3) := dk_167 (a := 0) (b := 4) (by decide +kernel) (by decide +kernel)
theorem dX4_bestSet_114 : decode cX4_bestSet 114 = .ok (.iconst 0, 1) := dk_3 (by decide +kernel)
theorem dX4_bestSet_115 : decode cX4_bestSet 115 = .ok (.istore 7, 2) := dk_54 (a := 7) (by decide +kernel)
theorem dX4_bestSet_117 : decode cX4_bestSet 117 = .ok (.aload_n 0, 1) := dk_42 (by decide +kernel)
theorem dX4_bestSet_118 : decode cX4_bestSet 118 = .ok (.getfield 43, 3) := dk_180 (a := 0) (b := 43) (by decide +kernel) rfl
theorem dX4_bestSet_121 : decode cX4_bestSet 121 = .ok (.iload 5, 2) := dk_21 (a := 5) (by decide +kernel)
theorem dX4_bestSet_123 : decode cX4_bestSet 123 = .ok (.iaload, 1) := dk_46 (by decide +kernel)
theorem dX4_bestSet_124 : decode cX4_bestSet 124 = .ok (.sipush 1000, 3) := dk_17 (a := 3) (b := 232) (by decide +kernel) (by decide +kernel)
theorem dX4_bestSet_127 : decode cX4_bestSet 127 = .ok (.if_icmp .ge 47, 3) := dk_162 (a := 0) (b := 47) (by decide +kernel) (by decide +kernel)
theorem dX4_bestSet_130 : decode cX4_bestSet 130 = .ok (.aload_n 0, 1) := dk_42 (by decide +kernel)
theorem dX4_bestSet_131 : decode cX4_bestSet 131 = .ok (.getfield 46, 3) := dk_180 (a := 0) (b := 46) (by decide +kernel) rfl
theorem dX4_bestSet_134 : decode cX4_bestSet 134 = .ok (.iload 5, 2) := dk_21 (a := 5) (by decide +kernel)
theorem dX4_bestSet_136 : decode cX4_bestSet 136 = .ok (.iaload, 1) := dk_46 (by decide +kernel)
theorem dX4_bestSet_137 : decode cX4_bestSet 137 = .ok (.aload_n 0, 1) := dk_42 (by decide +kernel)
theorem dX4_bestSet_138 : decode cX4_bestSet 138 = .ok (.getfield 139, 3) := dk_180 (a := 0) (b := 139) (by decide +kernel) rfl
theorem dX4_bestSet_141 : decode cX4_bestSet 141 = .ok (.if_icmp .gt 8, 3) := dk_163 (a := 0) (b := 8) (by decide +kernel) (by decide +kernel)
theorem dX4_bestSet_144 : decode cX4_bestSet 144 = .ok (.iload 7, 2) := dk_21 (a := 7) (by decide +kernel)
theorem dX4_bestSet_146 : decode cX4_bestSet 146 = .ok (.ifCond .eq 28, 3) := dk_153 (a := 0) (b := 28) (by decide +kernel) (by decide +kernel)
theorem dX4_bestSet_149 : decode cX4_bestSet 149 = .ok (.iload 5, 2) := dk_21 (a := 5) (by decide +kernel)
theorem dX4_bestSet_151 : decode cX4_bestSet 151 = .ok (.istore_n 3, 1) := dk_62 (by decide +kernel)
theorem dX4_bestSet_152 : decode cX4_bestSet 152 = .ok (.aload_n 0, 1) := dk_42 (by decide +kernel)
theorem dX4_bestSet_153 : decode cX4_bestSet 153 = .ok (.aload_n 0, 1) := dk_42 (by decide +kernel)
theorem dX4_bestSet_154 : decode cX4_bestSet 154 = .ok (.getfield 46, 3) := dk_180 (a := 0) (b := 46) (by decide +kernel) rfl
theorem dX4_bestSet_157 : decode cX4_bestSet 157 = .ok (.iload 5, 2) := dk_21 (a := 5) (by decide +kernel)
theorem dX4_bestSet_159 : decode cX4_bestSet 159 = .ok (.iaload, 1) := dk_46 (by decide +kernel)
theorem dX4_bestSet_160 : decode cX4_bestSet 160 = .ok (.putfield 139, 3) := dk_181 (a := 0) (b := 139) (by decide +kernel) rfl
theorem dX4_bestSet_163 : decode cX4_bestSet 163 = .ok (.aload_n 0, 1) := dk_42 (by decide +kernel)
theorem dX4_bestSet_164 : decode cX4_bestSet 164 = .ok (.aload_n 0, 1) := dk_42 (by decide +kernel)
theorem dX4_bestSet_165 : decode cX4_bestSet 165 = .ok (.getfield 43, 3) := dk_180 (a := 0) (b := 43) (by decide +kernel) rfl
theorem dX4_bestSet_168 : decode cX4_bestSet 168 = .ok (.iload 5, 2) := dk_21 (a := 5) (by decide +kernel)
theorem dX4_bestSet_170 : decode cX4_bestSet 170 = .ok (.iaload, 1) := dk_46 (by decide +kernel)
theorem dX4_bestSet_171 : decode cX4_bestSet 171 = .ok (.putfield 92, 3) := dk_181 (a := 0) (b := 92) (by decide +kernel) rfl
theorem dX4_bestSet_174 : decode cX4_bestSet 174 = .ok (.iinc 5 1, 3) := dk_132 (a := 5) (b := 1) (by decide +kernel) (by decide +kernel)
theorem dX4_bestSet_177 : decode cX4_bestSet 177 = .ok (.goto (-147), 3) := dk_167 (a := 255) (b := 109) (by decide +kernel) (by decide +kernel)
theorem dX4_bestSet_180 : decode cX4_bestSet 180 = .ok (.iload_n 3, 1) := dk_29 (by decide +kernel)
theorem dX4_bestSet_181 : decode cX4_bestSet 181 = .ok (.ireturn, 1) := dk_172 (by decide +kernel)
theorem dX4_worthOf_0 : decode cX4_worthOf 0 = .ok (.iconst 0, 1) := dk_3 (by decide +kernel)
theorem dX4_worthOf_1 : decode cX4_worthOf 1 = .ok (.istore_n 1, 1) := dk_60 (by decide +kernel)
theorem dX4_worthOf_2 : decode cX4_worthOf 2 = .ok (.iconst 0, 1) := dk_3 (by decide +kernel)
theorem dX4_worthOf_3 : decode cX4_worthOf 3 = .ok (.istore_n 2, 1) := dk_61 (by decide +kernel)
theorem dX4_worthOf_4 : decode cX4_worthOf 4 = .ok (.iload_n 2, 1) := dk_28 (by decide +kernel)
theorem dX4_worthOf_5 : decode cX4_worthOf 5 = .ok (.iconst 4, 1) := dk_7 (by decide +kernel)
theorem dX4_worthOf_6 : decode cX4_worthOf 6 = .ok (.if_icmp .ge 24, 3) := dk_162 (a := 0) (b := 24) (by decide +kernel) (by decide +kernel)
theorem dX4_worthOf_9 : decode cX4_worthOf 9 = .ok (.iload_n 0, 1) := dk_26 (by decide +kernel)
theorem dX4_worthOf_10 : decode cX4_worthOf 10 = .ok (.iload_n 2, 1) := dk_28 (by decide +kernel)
theorem dX4_worthOf_11 : decode cX4_worthOf 11 = .ok (.ishr, 1) := dk_122 (by decide +kernel)
theorem dX4_worthOf_12 : decode cX4_worthOf 12 = .ok (.iconst 1, 1) := dk_4 (by decide +kernel)
theorem dX4_worthOf_13 : decode cX4_worthOf 13 = .ok (.iand, 1) := dk_126 (by decide +kernel)
theorem dX4_worthOf_14 : decode cX4_worthOf 14 = .ok (.iconst 1, 1) := dk_4 (by decide +kernel)
theorem dX4_worthOf_15 : decode cX4_worthOf 15 = .ok (.if_icmp .ne 9, 3) := dk_160 (a := 0) (b := 9) (by decide +kernel) (by decide +kernel)
theorem dX4_worthOf_18 : decode cX4_worthOf 18 = .ok (.iload_n 1, 1) := dk_27 (by decide +kernel)
theorem dX4_worthOf_19 : decode cX4_worthOf 19 = .ok (.iload_n 2, 1) := dk_28 (by decide +kernel)
theorem dX4_worthOf_20 : decode cX4_worthOf 20 = .ok (.iconst 1, 1) := dk_4 (by decide +kernel)
theorem dX4_worthOf_21 : decode cX4_worthOf 21 = .ok (.iadd, 1) := dk_96 (by decide +kernel)
theorem dX4_worthOf_22 : decode cX4_worthOf 22 = .ok (.iadd, 1) := dk_96 (by decide +kernel)
theorem dX4_worthOf_23 : decode cX4_worthOf 23 = .ok (.istore_n 1, 1) := dk_60 (by decide +kernel)
theorem dX4_worthOf_24 : decode cX4_worthOf 24 = .ok (.iinc 2 1, 3) := dk_132 (a := 2) (b := 1) (by decide +kernel) (by decide +kernel)
theorem dX4_worthOf_27 : decode cX4_worthOf 27 = .ok (.goto (-23), 3) := dk_167 (a := 255) (b := 233) (by decide +kernel) (by decide +kernel)
theorem dX4_worthOf_30 : decode cX4_worthOf 30 = .ok (.iload_n 1, 1) := dk_27 (by decide +kernel)
theorem dX4_worthOf_31 : decode cX4_worthOf 31 = .ok (.ireturn, 1) := dk_172 (by decide +kernel)
theorem dX4_reckonLatest_0 : decode cX4_reckonLatest 0 = .ok (.iconst 0, 1) := dk_3 (by decide +kernel)
theorem dX4_reckonLatest_1 : decode cX4_reckonLatest 1 = .ok (.istore_n 3, 1) := dk_62 (by decide +kernel)
theorem dX4_reckonLatest_2 : decode cX4_reckonLatest 2 = .ok (.iload_n 3, 1) := dk_29 (by decide +kernel)
theorem dX4_reckonLatest_3 : decode cX4_reckonLatest 3 = .ok (.iload_n 1, 1) := dk_27 (by decide +kernel)
theorem dX4_reckonLatest_4 : decode cX4_reckonLatest 4 = .ok (.if_icmp .gt 76, 3) := dk_163 (a := 0) (b := 76) (by decide +kernel) (by decide +kernel)
theorem dX4_reckonLatest_7 : decode cX4_reckonLatest 7 = .ok (.iload_n 3, 1) := dk_29 (by decide +kernel)
theorem dX4_reckonLatest_8 : decode cX4_reckonLatest 8 = .ok (.iload_n 1, 1) := dk_27 (by decide +kernel)
theorem dX4_reckonLatest_9 : decode cX4_reckonLatest 9 = .ok (.iconst (-1), 1) := dk_2 (by decide +kernel)
theorem dX4_reckonLatest_10 : decode cX4_reckonLatest 10 = .ok (.ixor, 1) := dk_130 (by decide +kernel)
theorem dX4_reckonLatest_11 : decode cX4_reckonLatest 11 = .ok (.iand, 1) := dk_126 (by decide +kernel)
theorem dX4_reckonLatest_12 : decode cX4_reckonLatest 12 = .ok (.ifCond .ne 62, 3) := dk_154 (a := 0) (b := 62) (by decide +kernel) (by decide +kernel)
theorem dX4_reckonLatest_15 : decode cX4_reckonLatest 15 = .ok (.iconst 0, 1) := dk_3 (by decide +kernel)
theorem dX4_reckonLatest_16 : decode cX4_reckonLatest 16 = .ok (.istore 4, 2) := dk_54 (a := 4) (by decide +kernel)
theorem dX4_reckonLatest_18 : decode cX4_reckonLatest 18 = .ok (.iload 4, 2) := dk_21 (a := 4) (by decide +kernel)
theorem dX4_reckonLatest_20 : decode cX4_reckonLatest 20 = .ok (.aload_n 0, 1) := dk_42 (by decide +kernel)
theorem dX4_reckonLatest_21 : decode cX4_reckonLatest 21 = .ok (.getfield 53, 3) := dk_180 (a := 0) (b := 53) (by decide +kernel) rfl
theorem dX4_reckonLatest_24 : decode cX4_reckonLatest 24 = .ok (.if_icmp .ge 50, 3) := dk_162 (a := 0) (b := 50) (by decide +kernel) (by decide +kernel)
theorem dX4_reckonLatest_27 : decode cX4_reckonLatest 27 = .ok (.iload_n 1, 1) := dk_27 (by decide +kernel)
theorem dX4_reckonLatest_28 : decode cX4_reckonLatest 28 = .ok (.iload_n 3, 1) := dk_29 (by decide +kernel)
theorem dX4_reckonLatest_29 : decode cX4_reckonLatest 29 = .ok (.iconst (-1), 1) := dk_2 (by decide +kernel)
theorem dX4_reckonLatest_30 : decode cX4_reckonLatest 30 = .ok (.ixor, 1) := dk_130 (by decide +kernel)
theorem dX4_reckonLatest_31 : decode cX4_reckonLatest 31 = .ok (.iand, 1) := dk_126 (by decide +kernel)
theorem dX4_reckonLatest_32 : decode cX4_reckonLatest 32 = .ok (.iload 4, 2) := dk_21 (a := 4) (by decide +kernel)
theorem dX4_reckonLatest_34 : decode cX4_reckonLatest 34 = .ok (.ishr, 1) := dk_122 (by decide +kernel)
theorem dX4_reckonLatest_35 : decode cX4_reckonLatest 35 = .ok (.iconst 1, 1) := dk_4 (by decide +kernel)
theorem dX4_reckonLatest_36 : decode cX4_reckonLatest 36 = .ok (.iand, 1) := dk_126 (by decide +kernel)
theorem dX4_reckonLatest_37 : decode cX4_reckonLatest 37 = .ok (.iconst 1, 1) := dk_4 (by decide +kernel)
theorem dX4_reckonLatest_38 : decode cX4_reckonLatest 38 = .ok (.if_icmp .ne 30, 3) := dk_160 (a := 0) (b := 30) (by decide +kernel) (by decide +kernel)
theorem dX4_reckonLatest_41 : decode cX4_reckonLatest 41 = .ok (.aload_n 0, 1) := dk_42 (by decide +kernel)
theorem dX4_reckonLatest_42 : decode cX4_reckonLatest 42 = .ok (.getfield 40, 3) := dk_180 (a := 0) (b := 40) (by decide +kernel) rfl
theorem dX4_reckonLatest_45 : decode cX4_reckonLatest 45 = .ok (.iload_n 3, 1) := dk_29 (by decide +kernel)
theorem dX4_reckonLatest_46 : decode cX4_reckonLatest 46 = .ok (.bipush 10, 2) := dk_16 (a := 10) (by decide +kernel) (by decide +kernel)
theorem dX4_reckonLatest_48 : decode cX4_reckonLatest 48 = .ok (.imul, 1) := dk_104 (by decide +kernel)
theorem dX4_reckonLatest_49 : decode cX4_reckonLatest 49 = .ok (.iload 4, 2) := dk_21 (a := 4) (by decide +kernel)
theorem dX4_reckonLatest_51 : decode cX4_reckonLatest 51 = .ok (.iadd, 1) := dk_96 (by decide +kernel)
theorem dX4_reckonLatest_52 : decode cX4_reckonLatest 52 = .ok (.iload_n 3, 1) := dk_29 (by decide +kernel)
theorem dX4_reckonLatest_53 : decode cX4_reckonLatest 53 = .ok (.ifCond .ne 7, 3) := dk_154 (a := 0) (b := 7) (by decide +kernel) (by decide +kernel)
theorem dX4_reckonLatest_56 : decode cX4_reckonLatest 56 = .ok (.iload_n 2, 1) := dk_28 (by decide +kernel)
theorem dX4_reckonLatest_57 : decode cX4_reckonLatest 57 = .ok (.goto 10, 3) := dk_167 (a := 0) (b := 10) (by decide +kernel) (by decide +kernel)
theorem dX4_reckonLatest_60 : decode cX4_reckonLatest 60 = .ok (.aload_n 0, 1) := dk_42 (by decide +kernel)
theorem dX4_reckonLatest_61 : decode cX4_reckonLatest 61 = .ok (.iload_n 3, 1) := dk_29 (by decide +kernel)
theorem dX4_reckonLatest_62 : decode cX4_reckonLatest 62 = .ok (.iload 4, 2) := dk_21 (a := 4) (by decide +kernel)
theorem dX4_reckonLatest_64 : decode cX4_reckonLatest 64 = .ok (.invokevirtual 151, 3) := dk_182 (a := 0) (b := 151) (by decide +kernel) rfl
theorem dX4_reckonLatest_67 : decode cX4_reckonLatest 67 = .ok (.iastore, 1) := dk_79 (by decide +kernel)
theorem dX4_reckonLatest_68 : decode cX4_reckonLatest 68 = .ok (.iinc 4 1, 3) := dk_132 (a := 4) (b := 1) (by decide +kernel) (by decide +kernel)
theorem dX4_reckonLatest_71 : decode cX4_reckonLatest 71 = .ok (.goto (-53), 3) := dk_167 (a := 255) (b := 203) (by decide +kernel) (by decide +kernel)
theorem dX4_reckonLatest_74 : decode cX4_reckonLatest 74 = .ok (.iinc 3 1, 3) := dk_132 (a := 3) (b := 1) (by decide +kernel) (by decide +kernel)
theorem dX4_reckonLatest_77 : decode cX4_reckonLatest 77 = .ok (.goto (-75), 3) := dk_167 (a := 255) (b := 181) (by decide +kernel) (by decide +kernel)
theorem dX4_reckonLatest_80 : decode cX4_reckonLatest 80 = .ok (.return_, 1) := dk_177 (by decide +kernel)
theorem dX4_latest_0 : decode cX4_latest 0 = .ok (.iconst (-1), 1) := dk_2 (by decide +kernel)
theorem dX4_latest_1 : decode cX4_latest 1 = .ok (.istore_n 3, 1) := dk_62 (by decide +kernel)
theorem dX4_latest_2 : decode cX4_latest 2 = .ok (.iconst 0, 1) := dk_3 (by decide +kernel)
theorem dX4_latest_3 : decode cX4_latest 3 = .ok (.istore 4, 2) := dk_54 (a := 4) (by decide +kernel)
theorem dX4_latest_5 : decode cX4_latest 5 = .ok (.iload 4, 2) := dk_21 (a := 4) (by decide +kernel)
theorem dX4_latest_7 : decode cX4_latest 7 = .ok (.aload_n 0, 1) := dk_42 (by decide +kernel)
theorem dX4_latest_8 : decode cX4_latest 8 = .ok (.getfield 53, 3) := dk_180 (a := 0) (b := 53) (by decide +kernel) rfl
theorem dX4_latest_11 : decode cX4_latest 11 = .ok (.if_icmp .ge 106, 3) := dk_162 (a := 0) (b := 106) (by decide +kernel) (by decide +kernel)
theorem dX4_latest_14 : decode cX4_latest 14 = .ok (.iload_n 1, 1) := dk_27 (by decide +kernel)
theorem dX4_latest_15 : decode cX4_latest 15 = .ok (.iload 4, 2) := dk_21 (a := 4) (by decide +kernel)
theorem dX4_latest_17 : decode cX4_latest 17 = .ok (.ishr, 1) := dk_122 (by decide +kernel)
theorem dX4_latest_18 : decode cX4_latest 18 = .ok (.iconst 1, 1) := dk_4 (by decide +kernel)
theorem dX4_latest_19 : decode cX4_latest 19 = .ok (.iand, 1) := dk_126 (by decide +kernel)
theorem dX4_latest_20 : decode cX4_latest 20 = .ok (.iconst 1, 1) := dk_4 (by decide +kernel)
theorem dX4_latest_21 : decode cX4_latest 21 = .ok (.if_icmp .ne 90, 3) := dk_160 (a := 0) (b := 90) (by decide +kernel) (by decide +kernel)
theorem dX4_latest_24 : decode cX4_latest 24 = .ok (.aload_n 0, 1) := dk_42 (by decide +kernel)
theorem dX4_latest_25 : decode cX4_latest 25 = .ok (.getfield 22, 3) := dk_180 (a := 0) (b := 22) (by decide +kernel) rfl
theorem dX4_latest_28 : decode cX4_latest 28 = .ok (.iload 4, 2) := dk_21 (a := 4) (by decide +kernel)
theorem dX4_latest_30 : decode cX4_latest 30 = .ok (.iaload, 1) := dk_46 (by decide +kernel)
theorem dX4_latest_31 : decode cX4_latest 31 = .ok (.istore 5, 2) := dk_54 (a := 5) (by decide +kernel)
theorem dX4_latest_33 : decode cX4_latest 33 = .ok (.aload_n 0, 1) := dk_42 (by decide +kernel)
theorem dX4_latest_34 : decode cX4_latest 34 = .ok (.getfield 40, 3) := dk_180 (a := 0) (b := 40) (by decide +kernel) rfl
theorem dX4_latest_37 : decode cX4_latest 37 = .ok (.iload_n 1, 1) := dk_27 (by decide +kernel)
theorem dX4_latest_38 : decode cX4_latest 38 = .ok (.iconst 1, 1) := dk_4 (by decide +kernel)
theorem dX4_latest_39 : decode cX4_latest 39 = .ok (.iload 4, 2) := dk_21 (a := 4) (by decide +kernel)
theorem dX4_latest_41 : decode cX4_latest 41 = .ok (.ishl, 1) := dk_120 (by decide +kernel)
theorem dX4_latest_42 : decode cX4_latest 42 = .ok (.ixor, 1) := dk_130 (by decide +kernel)
theorem dX4_latest_43 : decode cX4_latest 43 = .ok (.bipush 10, 2) := dk_16 (a := 10) (by decide +kernel) (by decide +kernel)
theorem dX4_latest_45 : decode cX4_latest 45 = .ok (.imul, 1) := dk_104 (by decide +kernel)
theorem dX4_latest_46 : decode cX4_latest 46 = .ok (.iload 4, 2) := dk_21 (a := 4) (by decide +kernel)
theorem dX4_latest_48 : decode cX4_latest 48 = .ok (.iadd, 1) := dk_96 (by decide +kernel)
theorem dX4_latest_49 : decode cX4_latest 49 = .ok (.iaload, 1) := dk_46 (by decide +kernel)
theorem dX4_latest_50 : decode cX4_latest 50 = .ok (.istore 6, 2) := dk_54 (a := 6) (by decide +kernel)
theorem dX4_latest_52 : decode cX4_latest 52 = .ok (.iload 6, 2) := dk_21 (a := 6) (by decide +kernel)
theorem dX4_latest_54 : decode cX4_latest 54 = .ok (.aload_n 0, 1) := dk_42 (by decide +kernel)
theorem dX4_latest_55 : decode cX4_latest 55 = .ok (.getfield 31, 3) := dk_180 (a := 0) (b := 31) (by decide +kernel) rfl
theorem dX4_latest_58 : decode cX4_latest 58 = .ok (.iload 5, 2) := dk_21 (a := 5) (by decide +kernel)
theorem dX4_latest_60 : decode cX4_latest 60 = .ok (.iaload, 1) := dk_46 (by decide +kernel)
theorem dX4_latest_61 : decode cX4_latest 61 = .ok (.invokestatic 136, 3) := dk_184 (a := 0) (b := 136) (by decide +kernel) rfl
theorem dX4_latest_64 : decode cX4_latest 64 = .ok (.aload_n 0, 1) := dk_42 (by decide +kernel)
theorem dX4_latest_65 : decode cX4_latest 65 = .ok (.getfield 34, 3) := dk_180 (a := 0) (b := 34) (by decide +kernel) rfl
theorem dX4_latest_68 : decode cX4_latest 68 = .ok (.iload 5, 2) := dk_21 (a := 5) (by decide +kernel)
theorem dX4_latest_70 : decode cX4_latest 70 = .ok (.iaload, 1) := dk_46 (by decide +kernel)
theorem dX4_latest_71 : decode cX4_latest 71 = .ok (.isub, 1) := dk_100 (by decide +kernel)
theorem dX4_latest_72 : decode cX4_latest 72 = .ok (.istore 7, 2) := dk_54 (a := 7) (by decide +kernel)
theorem dX4_latest_74 : decode cX4_latest 74 = .ok (.iload 7, 2) := dk_21 (a := 7) (by decide +kernel)
theorem dX4_latest_76 : decode cX4_latest 76 = .ok (.aload_n 0, 1) := dk_42 (by decide +kernel)
theorem dX4_latest_77 : decode cX4_latest 77 = .ok (.getfield 28, 3) := dk_180 (a := 0) (b := 28) (by decide +kernel) rfl
theorem dX4_latest_80 : decode cX4_latest 80 = .ok (.iload 5, 2) := dk_21 (a := 5) (by decide +kernel)
theorem dX4_latest_82 : decode cX4_latest 82 = .ok (.iaload, 1) := dk_46 (by decide +kernel)
theorem dX4_latest_83 : decode cX4_latest 83 = .ok (.if_icmp .lt 28, 3) := dk_161 (a := 0) (b := 28) (by decide +kernel) (by decide +kernel)
theorem dX4_latest_86 : decode cX4_latest 86 = .ok (.iload_n 3, 1) := dk_29 (by decide +kernel)
theorem dX4_latest_87 : decode cX4_latest 87 = .ok (.iload 7, 2) := dk_21 (a := 7) (by decide +kernel)
theorem dX4_latest_89 : decode cX4_latest 89 = .ok (.aload_n 0, 1) := dk_42 (by decide +kernel)
theorem dX4_latest_90 : decode cX4_latest 90 = .ok (.getfield 37, 3) := dk_180 (a := 0) (b := 37) (by decide +kernel) rfl
theorem dX4_latest_93 : decode cX4_latest 93 = .ok (.aload_n 0, 1) := dk_42 (by decide +kernel)
theorem dX4_latest_94 : decode cX4_latest 94 = .ok (.getfield 22, 3) := dk_180 (a := 0) (b := 22) (by decide +kernel) rfl
theorem dX4_latest_97 : decode cX4_latest 97 = .ok (.iload_n 2, 1) := dk_28 (by decide +kernel)
theorem dX4_latest_98 : decode cX4_latest 98 = .ok (.iaload, 1) := dk_46 (by decide +kernel)
theorem dX4_latest_99 : decode cX4_latest 99 = .ok (.bipush 16, 2) := dk_16 (a := 16) (by decide +kernel) (by decide +kernel)
theorem dX4_latest_101 : decode cX4_latest 101 = .ok (.imul, 1) := dk_104 (by decide +kernel)
theorem dX4_latest_102 : decode cX4_latest 102 = .ok (.iload 5, 2) := dk_21 (a := 5) (by decide +kernel)
theorem dX4_latest_104 : decode cX4_latest 104 = .ok (.iadd, 1) := dk_96 (by decide +kernel)
theorem dX4_latest_105 : decode cX4_latest 105 = .ok (.iaload, 1) := dk_46 (by decide +kernel)
theorem dX4_latest_106 : decode cX4_latest 106 = .ok (.isub, 1) := dk_100 (by decide +kernel)
theorem dX4_latest_107 : decode cX4_latest 107 = .ok (.invokestatic 124, 3) := dk_184 (a := 0) (b := 124) (by decide +kernel) rfl
theorem dX4_latest_110 : decode cX4_latest 110 = .ok (.istore_n 3, 1) := dk_62 (by decide +kernel)
theorem dX4_latest_111 : decode cX4_latest 111 = .ok (.iinc 4 1, 3) := dk_132 (a := 4) (b := 1) (by decide +kernel) (by decide +kernel)
theorem dX4_latest_114 : decode cX4_latest 114 = .ok (.goto (-109), 3) := dk_167 (a := 255) (b := 147) (by decide +kernel) (by decide +kernel)
theorem dX4_latest_117 : decode cX4_latest 117 = .ok (.iload_n 3, 1) := dk_29 (by decide +kernel)
theorem dX4_latest_118 : decode cX4_latest 118 = .ok (.ireturn, 1) := dk_172 (by decide +kernel)
theorem dX4_putInOrder_0 : decode cX4_putInOrder 0 = .ok (.aload_n 0, 1) := dk_42 (by decide +kernel)
theorem dX4_putInOrder_1 : decode cX4_putInOrder 1 = .ok (.iconst 0, 1) := dk_3 (by decide +kernel)
theorem dX4_putInOrder_2 : decode cX4_putInOrder 2 = .ok (.putfield 154, 3) := dk_181 (a := 0) (b := 154) (by decide +kernel) rfl
theorem dX4_putInOrder_5 : decode cX4_putInOrder 5 = .ok (.iload_n 2, 1) := dk_28 (by decide +kernel)
theorem dX4_putInOrder_6 : decode cX4_putInOrder 6 = .ok (.istore_n 3, 1) := dk_62 (by decide +kernel)
theorem dX4_putInOrder_7 : decode cX4_putInOrder 7 = .ok (.iload_n 1, 1) := dk_27 (by decide +kernel)
theorem dX4_putInOrder_8 : decode cX4_putInOrder 8 = .ok (.istore 4, 2) := dk_54 (a := 4) (by decide +kernel)
theorem dX4_putInOrder_10 : decode cX4_putInOrder 10 = .ok (.iconst 0, 1) := dk_3 (by decide +kernel)
theorem dX4_putInOrder_11 : decode cX4_putInOrder 11 = .ok (.istore 5, 2) := dk_54 (a := 5) (by decide +kernel)
theorem dX4_putInOrder_13 : decode cX4_putInOrder 13 = .ok (.iconst 0, 1) := dk_3 (by decide +kernel)
theorem dX4_putInOrder_14 : decode cX4_putInOrder 14 = .ok (.istore 6, 2) := dk_54 (a := 6) (by decide +kernel)
theorem dX4_putInOrder_16 : decode cX4_putInOrder 16 = .ok (.iload 6, 2) := dk_21 (a := 6) (by decide +kernel)
theorem dX4_putInOrder_18 : decode cX4_putInOrder 18 = .ok (.aload_n 0, 1) := dk_42 (by decide +kernel)
theorem dX4_putInOrder_19 : decode cX4_putInOrder 19 = .ok (.getfield 53, 3) := dk_180 (a := 0) (b := 53) (by decide +kernel) rfl
theorem dX4_putInOrder_22 : decode cX4_putInOrder 22 = .ok (.if_icmp .ge 148, 3) := dk_162 (a := 0) (b := 148) (by decide +kernel) (by decide +kernel)
theorem dX4_putInOrder_25 : decode cX4_putInOrder 25 = .ok (.iload_n 3, 1) := dk_29 (by decide +kernel)
theorem dX4_putInOrder_26 : decode cX4_putInOrder 26 = .ok (.ifCond .eq 144, 3) := dk_153 (a := 0) (b := 144) (by decide +kernel) (by decide +kernel)
theorem dX4_putInOrder_29 : decode cX4_putInOrder 29 = .ok (.iconst 0, 1) := dk_3 (by decide +kernel)
theorem dX4_putInOrder_30 : decode cX4_putInOrder 30 = .ok (.istore 7, 2) := dk_54 (a := 7) (by decide +kernel)
theorem dX4_putInOrder_32 : decode cX4_putInOrder 32 = .ok (.iload 7, 2) := dk_21 (a := 7) (by decide +kernel)
theorem dX4_putInOrder_34 : decode cX4_putInOrder 34 = .ok (.aload_n 0, 1) := dk_42 (by decide +kernel)
theorem dX4_putInOrder_35 : decode cX4_putInOrder 35 = .ok (.getfield 53, 3) := dk_180 (a := 0) (b := 53) (by decide +kernel) rfl
theorem dX4_putInOrder_38 : decode cX4_putInOrder 38 = .ok (.if_icmp .ge 126, 3) := dk_162 (a := 0) (b := 126) (by decide +kernel) (by decide +kernel)
theorem dX4_putInOrder_41 : decode cX4_putInOrder 41 = .ok (.iload_n 3, 1) := dk_29 (by decide +kernel)
theorem dX4_putInOrder_42 : decode cX4_putInOrder 42 = .ok (.iload 7, 2) := dk_21 (a := 7) (by decide +kernel)
theorem dX4_putInOrder_44 : decode cX4_putInOrder 44 = .ok (.ishr, 1) := dk_122 (by decide +kernel)
theorem dX4_putInOrder_45 : decode cX4_putInOrder 45 = .ok (.iconst 1, 1) := dk_4 (by decide +kernel)
theorem dX4_putInOrder_46 : decode cX4_putInOrder 46 = .ok (.iand, 1) := dk_126 (by decide +kernel)
theorem dX4_putInOrder_47 : decode cX4_putInOrder 47 = .ok (.ifCond .ne 6, 3) := dk_154 (a := 0) (b := 6) (by decide +kernel) (by decide +kernel)
theorem dX4_putInOrder_50 : decode cX4_putInOrder 50 = .ok (.goto 108, 3) := dk_167 (a := 0) (b := 108) (by decide +kernel) (by decide +kernel)
theorem dX4_putInOrder_53 : decode cX4_putInOrder 53 = .ok (.aload_n 0, 1) := dk_42 (by decide +kernel)
theorem dX4_putInOrder_54 : decode cX4_putInOrder 54 = .ok (.aload_n 0, 1) := dk_42 (by decide +kernel)
theorem dX4_putInOrder_55 : decode cX4_putInOrder 55 = .ok (.getfield 22, 3) := dk_180 (a := 0) (b := 22) (by decide +kernel) rfl
theorem dX4_putInOrder_58 : decode cX4_putInOrder 58 = .ok (.iload 7, 2) := dk_21 (a := 7) (by decide +kernel)
theorem dX4_putInOrder_60 : decode cX4_putInOrder 60 = .ok (.iaload, 1) := dk_46 (by decide +kernel)
theorem dX4_putInOrder_61 : decode cX4_putInOrder 61 = .ok (.iload 5, 2) := dk_21 (a := 5) (by decide +kernel)
theorem dX4_putInOrder_63 : decode cX4_putInOrder 63 = .ok (.aload_n 0, 1) := dk_42 (by decide +kernel)
theorem dX4_putInOrder_64 : decode cX4_putInOrder 64 = .ok (.getfield 37, 3) := dk_180 (a := 0) (b := 37) (by decide +kernel) rfl
theorem dX4_putInOrder_67 : decode cX4_putInOrder 67 = .ok (.iload 4, 2) := dk_21 (a := 4) (by decide +kernel)
theorem dX4_putInOrder_69 : decode cX4_putInOrder 69 = .ok (.bipush 16, 2) := dk_16 (a := 16) (by decide +kernel) (by decide +kernel)
theorem dX4_putInOrder_71 : decode cX4_putInOrder 71 = .ok (.imul, 1) := dk_104 (by decide +kernel)
theorem dX4_putInOrder_72 : decode cX4_putInOrder 72 = .ok (.aload_n 0, 1) := dk_42 (by decide +kernel)
theorem dX4_putInOrder_73 : decode cX4_putInOrder 73 = .ok (.getfield 22, 3) := dk_180 (a := 0) (b := 22) (by decide +kernel) rfl
theorem dX4_putInOrder_76 : decode cX4_putInOrder 76 = .ok (.iload 7, 2) := dk_21 (a := 7) (by decide +kernel)
theorem dX4_putInOrder_78 : decode cX4_putInOrder 78 = .ok (.iaload, 1) := dk_46 (by decide +kernel)
theorem dX4_putInOrder_79 : decode cX4_putInOrder 79 = .ok (.iadd, 1) := dk_96 (by decide +kernel)
theorem dX4_putInOrder_80 : decode cX4_putInOrder 80 = .ok (.iaload, 1) := dk_46 (by decide +kernel)
theorem dX4_putInOrder_81 : decode cX4_putInOrder 81 = .ok (.iadd, 1) := dk_96 (by decide +kernel)
theorem dX4_putInOrder_82 : decode cX4_putInOrder 82 = .ok (.invokevirtual 133, 3) := dk_182 (a := 0) (b := 133) (by decide +kernel) rfl
theorem dX4_putInOrder_85 : decode cX4_putInOrder 85 = .ok (.istore 8, 2) := dk_54 (a := 8) (by decide +kernel)
theorem dX4_putInOrder_87 : decode cX4_putInOrder 87 = .ok (.iload_n 3, 1) := dk_29 (by decide +kernel)
theorem dX4_putInOrder_88 : decode cX4_putInOrder 88 = .ok (.iconst 1, 1) := dk_4 (by decide +kernel)
theorem dX4_putInOrder_89 : decode cX4_putInOrder 89 = .ok (.iload 7, 2) := dk_21 (a := 7) (by decide +kernel)
theorem dX4_putInOrder_91 : decode cX4_putInOrder 91 = .ok (.ishl, 1) := dk_120 (by decide +kernel)
theorem dX4_putInOrder_92 : decode cX4_putInOrder 92 = .ok (.ixor, 1) := dk_130 (by decide +kernel)
theorem dX4_putInOrder_93 : decode cX4_putInOrder 93 = .ok (.istore 9, 2) := dk_54 (a := 9) (by decide +kernel)
theorem dX4_putInOrder_95 : decode cX4_putInOrder 95 = .ok (.iload 8, 2) := dk_21 (a := 8) (by decide +kernel)
theorem dX4_putInOrder_97 : decode cX4_putInOrder 97 = .ok (.aload_n 0, 1) := dk_42 (by decide +kernel)
theorem dX4_putInOrder_98 : decode cX4_putInOrder 98 = .ok (.getfield 40, 3) := dk_180 (a := 0) (b := 40) (by decide +kernel) rfl
theorem dX4_putInOrder_101 : decode cX4_putInOrder 101 = .ok (.iload 9, 2) := dk_21 (a := 9) (by decide +kernel)
theorem dX4_putInOrder_103 : decode cX4_putInOrder 103 = .ok (.bipush 10, 2) := dk_16 (a := 10) (by decide +kernel) (by decide +kernel)
theorem dX4_putInOrder_105 : decode cX4_putInOrder 105 = .ok (.imul, 1) := dk_104 (by decide +kernel)
theorem dX4_putInOrder_106 : decode cX4_putInOrder 106 = .ok (.iload 7, 2) := dk_21 (a := 7) (by decide +kernel)
theorem dX4_putInOrder_108 : decode cX4_putInOrder 108 = .ok (.iadd, 1) := dk_96 (by decide +kernel)
theorem dX4_putInOrder_109 : decode cX4_putInOrder 109 = .ok (.iaload, 1) := dk_46 (by decide +kernel)
theorem dX4_putInOrder_110 : decode cX4_putInOrder 110 = .ok (.if_icmp .gt 48, 3) := dk_163 (a := 0) (b := 48) (by decide +kernel) (by decide +kernel)
theorem dX4_putInOrder_113 : decode cX4_putInOrder 113 = .ok (.aload_n 0, 1) := dk_42 (by decide +kernel)
theorem dX4_putInOrder_114 : decode cX4_putInOrder 114 = .ok (.getfield 11, 3) := dk_180 (a := 0) (b := 11) (by decide +kernel) rfl
theorem dX4_putInOrder_117 : decode cX4_putInOrder 117 = .ok (.aload_n 0, 1) := dk_42 (by decide +kernel)
theorem dX4_putInOrder_118 : decode cX4_putInOrder 118 = .ok (.getfield 154, 3) := dk_180 (a := 0) (b := 154) (by decide +kernel) rfl
theorem dX4_putInOrder_121 : decode cX4_putInOrder 121 = .ok (.aload_n 0, 1) := dk_42 (by decide +kernel)
theorem dX4_putInOrder_122 : decode cX4_putInOrder 122 = .ok (.getfield 22, 3) := dk_180 (a := 0) (b := 22) (by decide +kernel) rfl
theorem dX4_putInOrder_125 : decode cX4_putInOrder 125 = .ok (.iload 7, 2) := dk_21 (a := 7) (by decide +kernel)
theorem dX4_putInOrder_127 : decode cX4_putInOrder 127 = .ok (.iaload, 1) := dk_46 (by decide +kernel)
theorem dX4_putInOrder_128 : decode cX4_putInOrder 128 = .ok (.iastore, 1) := dk_79 (by decide +kernel)
theorem dX4_putInOrder_129 : decode cX4_putInOrder 129 = .ok (.aload_n 0, 1) := dk_42 (by decide +kernel)
theorem dX4_putInOrder_130 : decode cX4_putInOrder 130 = .ok (.dup, 1) := dk_89 (by decide +kernel)
theorem dX4_putInOrder_131 : decode cX4_putInOrder 131 = .ok (.getfield 154, 3) := dk_180 (a := 0) (b := 154) (by decide +kernel) rfl
theorem dX4_putInOrder_134 : decode cX4_putInOrder 134 = .ok (.iconst 1, 1) := dk_4 (by decide +kernel)
theorem dX4_putInOrder_135 : decode cX4_putInOrder 135 = .ok (.iadd, 1) := dk_96 (by decide +kernel)
theorem dX4_putInOrder_136 : decode cX4_putInOrder 136 = .ok (.putfield 154, 3) := dk_181 (a := 0) (b := 154) (by decide +kernel) rfl
theorem dX4_putInOrder_139 : decode cX4_putInOrder 139 = .ok (.iload 9, 2) := dk_21 (a := 9) (by decide +kernel)
theorem dX4_putInOrder_141 : decode cX4_putInOrder 141 = .ok (.istore_n 3, 1) := dk_62 (by decide +kernel)
theorem dX4_putInOrder_142 : decode cX4_putInOrder 142 = .ok (.aload_n 0, 1) := dk_42 (by decide +kernel)
theorem dX4_putInOrder_143 : decode cX4_putInOrder 143 = .ok (.getfield 22, 3) := dk_180 (a := 0) (b := 22) (by decide +kernel) rfl
theorem dX4_putInOrder_146 : decode cX4_putInOrder 146 = .ok (.iload 7, 2) := dk_21 (a := 7) (by decide +kernel)
theorem dX4_putInOrder_148 : decode cX4_putInOrder 148 = .ok (.iaload, 1) := dk_46 (by decide +kernel)
theorem dX4_putInOrder_149 : decode cX4_putInOrder 149 = .ok (.istore 4, 2) := dk_54 (a := 4) (by decide +kernel)
theorem dX4_putInOrder_151 : decode cX4_putInOrder 151 = .ok (.iload 8, 2) := dk_21 (a := 8) (by decide +kernel)
theorem dX4_putInOrder_153 : decode cX4_putInOrder 153 = .ok (.istore 5, 2) := dk_54 (a := 5) (by decide +kernel)
theorem dX4_putInOrder_155 : decode cX4_putInOrder 155 = .ok (.goto 9, 3) := dk_167 (a := 0) (b := 9) (by decide +kernel) (by decide +kernel)
theorem dX4_putInOrder_158 : decode cX4_putInOrder 158 = .ok (.iinc 7 1, 3) := dk_132 (a := 7) (b := 1) (by decide +kernel) (by decide +kernel)
theorem dX4_putInOrder_161 : decode cX4_putInOrder 161 = .ok (.goto (-129), 3) := dk_167 (a := 255) (b := 127) (by decide +kernel) (by decide +kernel)
theorem dX4_putInOrder_164 : decode cX4_putInOrder 164 = .ok (.iinc 6 1, 3) := dk_132 (a := 6) (b := 1) (by decide +kernel) (by decide +kernel)
theorem dX4_putInOrder_167 : decode cX4_putInOrder 167 = .ok (.goto (-151), 3) := dk_167 (a := 255) (b := 105) (by decide +kernel) (by decide +kernel)
theorem dX4_putInOrder_170 : decode cX4_putInOrder 170 = .ok (.return_, 1) := dk_177 (by decide +kernel)
theorem dX4_canWalk_0 : decode cX4_canWalk 0 = .ok (.iconst 0, 1) := dk_3 (by decide +kernel)
theorem dX4_canWalk_1 : decode cX4_canWalk 1 = .ok (.istore 5, 2) := dk_54 (a := 5) (by decide +kernel)
theorem dX4_canWalk_3 : decode cX4_canWalk 3 = .ok (.iload_n 2, 1) := dk_28 (by decide +kernel)
theorem dX4_canWalk_4 : decode cX4_canWalk 4 = .ok (.istore 6, 2) := dk_54 (a := 6) (by decide +kernel)
theorem dX4_canWalk_6 : decode cX4_canWalk 6 = .ok (.iconst 0, 1) := dk_3 (by decide +kernel)
theorem dX4_canWalk_7 : decode cX4_canWalk 7 = .ok (.istore 7, 2) := dk_54 (a := 7) (by decide +kernel)
theorem dX4_canWalk_9 : decode cX4_canWalk 9 = .ok (.iconst 0, 1) := dk_3 (by decide +kernel)
theorem dX4_canWalk_10 : decode cX4_canWalk 10 = .ok (.istore 8, 2) := dk_54 (a := 8) (by decide +kernel)
theorem dX4_canWalk_12 : decode cX4_canWalk 12 = .ok (.iload 8, 2) := dk_21 (a := 8) (by decide +kernel)
theorem dX4_canWalk_14 : decode cX4_canWalk 14 = .ok (.aload 4, 2) := dk_25 (a := 4) (by decide +kernel)
theorem dX4_canWalk_16 : decode cX4_canWalk 16 = .ok (.getfield 157, 3) := dk_180 (a := 0) (b := 157) (by decide +kernel) rfl
theorem dX4_canWalk_19 : decode cX4_canWalk 19 = .ok (.if_icmp .ge 120, 3) := dk_162 (a := 0) (b := 120) (by decide +kernel) (by decide +kernel)
theorem dX4_canWalk_22 : decode cX4_canWalk 22 = .ok (.aload 4, 2) := dk_25 (a := 4) (by decide +kernel)
theorem dX4_canWalk_24 : decode cX4_canWalk 24 = .ok (.iload 8, 2) := dk_21 (a := 8) (by decide +kernel)
theorem dX4_canWalk_26 : decode cX4_canWalk 26 = .ok (.invokevirtual 162, 3) := dk_182 (a := 0) (b := 162) (by decide +kernel) rfl
theorem dX4_canWalk_29 : decode cX4_canWalk 29 = .ok (.istore 9, 2) := dk_54 (a := 9) (by decide +kernel)
theorem dX4_canWalk_31 : decode cX4_canWalk 31 = .ok (.aload_n 1, 1) := dk_43 (by decide +kernel)
theorem dX4_canWalk_32 : decode cX4_canWalk 32 = .ok (.getfield 56, 3) := dk_180 (a := 0) (b := 56) (by decide +kernel) rfl
theorem dX4_canWalk_35 : decode cX4_canWalk 35 = .ok (.iload 9, 2) := dk_21 (a := 9) (by decide +kernel)
theorem dX4_canWalk_37 : decode cX4_canWalk 37 = .ok (.invokevirtual 165, 3) := dk_182 (a := 0) (b := 165) (by decide +kernel) rfl
theorem dX4_canWalk_40 : decode cX4_canWalk 40 = .ok (.ifCond .eq 38, 3) := dk_153 (a := 0) (b := 38) (by decide +kernel) (by decide +kernel)
theorem dX4_canWalk_43 : decode cX4_canWalk 43 = .ok (.iload 5, 2) := dk_21 (a := 5) (by decide +kernel)
theorem dX4_canWalk_45 : decode cX4_canWalk 45 = .ok (.iload 9, 2) := dk_21 (a := 9) (by decide +kernel)
theorem dX4_canWalk_47 : decode cX4_canWalk 47 = .ok (.ishr, 1) := dk_122 (by decide +kernel)
theorem dX4_canWalk_48 : decode cX4_canWalk 48 = .ok (.iconst 1, 1) := dk_4 (by decide +kernel)
theorem dX4_canWalk_49 : decode cX4_canWalk 49 = .ok (.iand, 1) := dk_126 (by decide +kernel)
theorem dX4_canWalk_50 : decode cX4_canWalk 50 = .ok (.iconst 1, 1) := dk_4 (by decide +kernel)
theorem dX4_canWalk_51 : decode cX4_canWalk 51 = .ok (.if_icmp .eq 27, 3) := dk_159 (a := 0) (b := 27) (by decide +kernel) (by decide +kernel)
theorem dX4_canWalk_54 : decode cX4_canWalk 54 = .ok (.aload_n 1, 1) := dk_43 (by decide +kernel)
theorem dX4_canWalk_55 : decode cX4_canWalk 55 = .ok (.getfield 67, 3) := dk_180 (a := 0) (b := 67) (by decide +kernel) rfl
theorem dX4_canWalk_58 : decode cX4_canWalk 58 = .ok (.iload_n 2, 1) := dk_28 (by decide +kernel)
theorem dX4_canWalk_59 : decode cX4_canWalk 59 = .ok (.iload 9, 2) := dk_21 (a := 9) (by decide +kernel)
theorem dX4_canWalk_61 : decode cX4_canWalk 61 = .ok (.invokevirtual 71, 3) := dk_182 (a := 0) (b := 71) (by decide +kernel) rfl
theorem dX4_canWalk_64 : decode cX4_canWalk 64 = .ok (.ifCond .eq 14, 3) := dk_153 (a := 0) (b := 14) (by decide +kernel) (by decide +kernel)
theorem dX4_canWalk_67 : decode cX4_canWalk 67 = .ok (.aload_n 1, 1) := dk_43 (by decide +kernel)
theorem dX4_canWalk_68 : decode cX4_canWalk 68 = .ok (.iload_n 2, 1) := dk_28 (by decide +kernel)
theorem dX4_canWalk_69 : decode cX4_canWalk 69 = .ok (.iload 9, 2) := dk_21 (a := 9) (by decide +kernel)
theorem dX4_canWalk_71 : decode cX4_canWalk 71 = .ok (.iload_n 3, 1) := dk_29 (by decide +kernel)
theorem dX4_canWalk_72 : decode cX4_canWalk 72 = .ok (.invokestatic 120, 3) := dk_184 (a := 0) (b := 120) (by decide +kernel) rfl
theorem dX4_canWalk_75 : decode cX4_canWalk 75 = .ok (.ifCond .ne 5, 3) := dk_154 (a := 0) (b := 5) (by decide +kernel) (by decide +kernel)
theorem dX4_canWalk_78 : decode cX4_canWalk 78 = .ok (.iconst 0, 1) := dk_3 (by decide +kernel)
theorem dX4_canWalk_79 : decode cX4_canWalk 79 = .ok (.ireturn, 1) := dk_172 (by decide +kernel)
theorem dX4_canWalk_80 : decode cX4_canWalk 80 = .ok (.aload_n 0, 1) := dk_42 (by decide +kernel)
theorem dX4_canWalk_81 : decode cX4_canWalk 81 = .ok (.aload_n 1, 1) := dk_43 (by decide +kernel)
theorem dX4_canWalk_82 : decode cX4_canWalk 82 = .ok (.iload_n 2, 1) := dk_28 (by decide +kernel)
theorem dX4_canWalk_83 : decode cX4_canWalk 83 = .ok (.iload 9, 2) := dk_21 (a := 9) (by decide +kernel)
theorem dX4_canWalk_85 : decode cX4_canWalk 85 = .ok (.invokevirtual 101, 3) := dk_182 (a := 0) (b := 101) (by decide +kernel) rfl
theorem dX4_canWalk_88 : decode cX4_canWalk 88 = .ok (.aload_n 0, 1) := dk_42 (by decide +kernel)
theorem dX4_canWalk_89 : decode cX4_canWalk 89 = .ok (.iload 9, 2) := dk_21 (a := 9) (by decide +kernel)
theorem dX4_canWalk_91 : decode cX4_canWalk 91 = .ok (.iload 7, 2) := dk_21 (a := 7) (by decide +kernel)
theorem dX4_canWalk_93 : decode cX4_canWalk 93 = .ok (.aload_n 1, 1) := dk_43 (by decide +kernel)
theorem dX4_canWalk_94 : decode cX4_canWalk 94 = .ok (.getfield 56, 3) := dk_180 (a := 0) (b := 56) (by decide +kernel) rfl
theorem dX4_canWalk_97 : decode cX4_canWalk 97 = .ok (.iload 6, 2) := dk_21 (a := 6) (by decide +kernel)
theorem dX4_canWalk_99 : decode cX4_canWalk 99 = .ok (.iload 9, 2) := dk_21 (a := 9) (by decide +kernel)
theorem dX4_canWalk_101 : decode cX4_canWalk 101 = .ok (.invokevirtual 105, 3) := dk_182 (a := 0) (b := 105) (by decide +kernel) rfl
theorem dX4_canWalk_104 : decode cX4_canWalk 104 = .ok (.iadd, 1) := dk_96 (by decide +kernel)
theorem dX4_canWalk_105 : decode cX4_canWalk 105 = .ok (.invokevirtual 133, 3) := dk_182 (a := 0) (b := 133) (by decide +kernel) rfl
theorem dX4_canWalk_108 : decode cX4_canWalk 108 = .ok (.istore 7, 2) := dk_54 (a := 7) (by decide +kernel)
theorem dX4_canWalk_110 : decode cX4_canWalk 110 = .ok (.iload 7, 2) := dk_21 (a := 7) (by decide +kernel)
theorem dX4_canWalk_112 : decode cX4_canWalk 112 = .ok (.sipush 1000, 3) := dk_17 (a := 3) (b := 232) (by decide +kernel) (by decide +kernel)
theorem dX4_canWalk_115 : decode cX4_canWalk 115 = .ok (.if_icmp .lt 5, 3) := dk_161 (a := 0) (b := 5) (by decide +kernel) (by decide +kernel)
theorem dX4_canWalk_118 : decode cX4_canWalk 118 = .ok (.iconst 0, 1) := dk_3 (by decide +kernel)
theorem dX4_canWalk_119 : decode cX4_canWalk 119 = .ok (.ireturn, 1) := dk_172 (by decide +kernel)
theorem dX4_canWalk_120 : decode cX4_canWalk 120 = .ok (.iload 5, 2) := dk_21 (a := 5) (by decide +kernel)
theorem dX4_canWalk_122 : decode cX4_canWalk 122 = .ok (.iconst 1, 1) := dk_4 (by decide +kernel)
theorem dX4_canWalk_123 : decode cX4_canWalk 123 = .ok (.iload 9, 2) := dk_21 (a := 9) (by decide +kernel)
theorem dX4_canWalk_125 : decode cX4_canWalk 125 = .ok (.ishl, 1) := dk_120 (by decide +kernel)
theorem dX4_canWalk_126 : decode cX4_canWalk 126 = .ok (.ior, 1) := dk_128 (by decide +kernel)
theorem dX4_canWalk_127 : decode cX4_canWalk 127 = .ok (.istore 5, 2) := dk_54 (a := 5) (by decide +kernel)
theorem dX4_canWalk_129 : decode cX4_canWalk 129 = .ok (.iload 9, 2) := dk_21 (a := 9) (by decide +kernel)
theorem dX4_canWalk_131 : decode cX4_canWalk 131 = .ok (.istore 6, 2) := dk_54 (a := 6) (by decide +kernel)
theorem dX4_canWalk_133 : decode cX4_canWalk 133 = .ok (.iinc 8 1, 3) := dk_132 (a := 8) (b := 1) (by decide +kernel) (by decide +kernel)
theorem dX4_canWalk_136 : decode cX4_canWalk 136 = .ok (.goto (-124), 3) := dk_167 (a := 255) (b := 132) (by decide +kernel) (by decide +kernel)
theorem dX4_canWalk_139 : decode cX4_canWalk 139 = .ok (.iconst 1, 1) := dk_4 (by decide +kernel)
theorem dX4_canWalk_140 : decode cX4_canWalk 140 = .ok (.ireturn, 1) := dk_172 (by decide +kernel)
theorem dX4_fewestDays_0 : decode cX4_fewestDays 0 = .ok (.aload_n 0, 1) := dk_42 (by decide +kernel)
theorem dX4_fewestDays_1 : decode cX4_fewestDays 1 = .ok (.iconst 0, 1) := dk_3 (by decide +kernel)
theorem dX4_fewestDays_2 : decode cX4_fewestDays 2 = .ok (.putfield 49, 3) := dk_181 (a := 0) (b := 49) (by decide +kernel) rfl
theorem dX4_fewestDays_5 : decode cX4_fewestDays 5 = .ok (.aload_n 0, 1) := dk_42 (by decide +kernel)
theorem dX4_fewestDays_6 : decode cX4_fewestDays 6 = .ok (.iload_n 2, 1) := dk_28 (by decide +kernel)
theorem dX4_fewestDays_7 : decode cX4_fewestDays 7 = .ok (.putfield 15, 3) := dk_181 (a := 0) (b := 15) (by decide +kernel) rfl
theorem dX4_fewestDays_10 : decode cX4_fewestDays 10 = .ok (.aload_n 0, 1) := dk_42 (by decide +kernel)
theorem dX4_fewestDays_11 : decode cX4_fewestDays 11 = .ok (.aload_n 1, 1) := dk_43 (by decide +kernel)
theorem dX4_fewestDays_12 : decode cX4_fewestDays 12 = .ok (.iload_n 2, 1) := dk_28 (by decide +kernel)
theorem dX4_fewestDays_13 : decode cX4_fewestDays 13 = .ok (.invokevirtual 169, 3) := dk_182 (a := 0) (b := 169) (by decide +kernel) rfl
theorem dX4_fewestDays_16 : decode cX4_fewestDays 16 = .ok (.aload_n 0, 1) := dk_42 (by decide +kernel)
theorem dX4_fewestDays_17 : decode cX4_fewestDays 17 = .ok (.aload_n 1, 1) := dk_43 (by decide +kernel)
theorem dX4_fewestDays_18 : decode cX4_fewestDays 18 = .ok (.iload_n 2, 1) := dk_28 (by decide +kernel)
theorem dX4_fewestDays_19 : decode cX4_fewestDays 19 = .ok (.invokevirtual 77, 3) := dk_182 (a := 0) (b := 77) (by decide +kernel) rfl
theorem dX4_fewestDays_22 : decode cX4_fewestDays 22 = .ok (.iconst 1, 1) := dk_4 (by decide +kernel)
theorem dX4_fewestDays_23 : decode cX4_fewestDays 23 = .ok (.aload_n 0, 1) := dk_42 (by decide +kernel)
theorem dX4_fewestDays_24 : decode cX4_fewestDays 24 = .ok (.getfield 53, 3) := dk_180 (a := 0) (b := 53) (by decide +kernel) rfl
theorem dX4_fewestDays_27 : decode cX4_fewestDays 27 = .ok (.ishl, 1) := dk_120 (by decide +kernel)
theorem dX4_fewestDays_28 : decode cX4_fewestDays 28 = .ok (.iconst 1, 1) := dk_4 (by decide +kernel)
theorem dX4_fewestDays_29 : decode cX4_fewestDays 29 = .ok (.isub, 1) := dk_100 (by decide +kernel)
theorem dX4_fewestDays_30 : decode cX4_fewestDays 30 = .ok (.istore_n 3, 1) := dk_62 (by decide +kernel)
theorem dX4_fewestDays_31 : decode cX4_fewestDays 31 = .ok (.iconst 1, 1) := dk_4 (by decide +kernel)
theorem dX4_fewestDays_32 : decode cX4_fewestDays 32 = .ok (.istore 4, 2) := dk_54 (a := 4) (by decide +kernel)
theorem dX4_fewestDays_34 : decode cX4_fewestDays 34 = .ok (.iload 4, 2) := dk_21 (a := 4) (by decide +kernel)
theorem dX4_fewestDays_36 : decode cX4_fewestDays 36 = .ok (.iload_n 3, 1) := dk_29 (by decide +kernel)
theorem dX4_fewestDays_37 : decode cX4_fewestDays 37 = .ok (.if_icmp .gt 19, 3) := dk_163 (a := 0) (b := 19) (by decide +kernel) (by decide +kernel)
theorem dX4_fewestDays_40 : decode cX4_fewestDays 40 = .ok (.aload_n 0, 1) := dk_42 (by decide +kernel)
theorem dX4_fewestDays_41 : decode cX4_fewestDays 41 = .ok (.getfield 46, 3) := dk_180 (a := 0) (b := 46) (by decide +kernel) rfl
theorem dX4_fewestDays_44 : decode cX4_fewestDays 44 = .ok (.iload 4, 2) := dk_21 (a := 4) (by decide +kernel)
theorem dX4_fewestDays_46 : decode cX4_fewestDays 46 = .ok (.sipush 1000, 3) := dk_17 (a := 3) (b := 232) (by decide +kernel) (by decide +kernel)
theorem dX4_fewestDays_49 : decode cX4_fewestDays 49 = .ok (.iastore, 1) := dk_79 (by decide +kernel)
theorem dX4_fewestDays_50 : decode cX4_fewestDays 50 = .ok (.iinc 4 1, 3) := dk_132 (a := 4) (b := 1) (by decide +kernel) (by decide +kernel)
theorem dX4_fewestDays_53 : decode cX4_fewestDays 53 = .ok (.goto (-19), 3) := dk_167 (a := 255) (b := 237) (by decide +kernel) (by decide +kernel)
theorem dX4_fewestDays_56 : decode cX4_fewestDays 56 = .ok (.aload_n 0, 1) := dk_42 (by decide +kernel)
theorem dX4_fewestDays_57 : decode cX4_fewestDays 57 = .ok (.getfield 46, 3) := dk_180 (a := 0) (b := 46) (by decide +kernel) rfl
theorem dX4_fewestDays_60 : decode cX4_fewestDays 60 = .ok (.iconst 0, 1) := dk_3 (by decide +kernel)
theorem dX4_fewestDays_61 : decode cX4_fewestDays 61 = .ok (.iconst 0, 1) := dk_3 (by decide +kernel)
theorem dX4_fewestDays_62 : decode cX4_fewestDays 62 = .ok (.iastore, 1) := dk_79 (by decide +kernel)
theorem dX4_fewestDays_63 : decode cX4_fewestDays 63 = .ok (.aload_n 0, 1) := dk_42 (by decide +kernel)
theorem dX4_fewestDays_64 : decode cX4_fewestDays 64 = .ok (.iload_n 2, 1) := dk_28 (by decide +kernel)
theorem dX4_fewestDays_65 : decode cX4_fewestDays 65 = .ok (.iload_n 3, 1) := dk_29 (by decide +kernel)
theorem dX4_fewestDays_66 : decode cX4_fewestDays 66 = .ok (.invokevirtual 85, 3) := dk_182 (a := 0) (b := 85) (by decide +kernel) rfl
theorem dX4_fewestDays_69 : decode cX4_fewestDays 69 = .ok (.aload_n 1, 1) := dk_43 (by decide +kernel)
theorem dX4_fewestDays_70 : decode cX4_fewestDays 70 = .ok (.getfield 172, 3) := dk_180 (a := 0) (b := 172) (by decide +kernel) rfl
theorem dX4_fewestDays_73 : decode cX4_fewestDays 73 = .ok (.istore 4, 2) := dk_54 (a := 4) (by decide +kernel)
theorem dX4_fewestDays_75 : decode cX4_fewestDays 75 = .ok (.iload 4, 2) := dk_21 (a := 4) (by decide +kernel)
theorem dX4_fewestDays_77 : decode cX4_fewestDays 77 = .ok (.aload_n 1, 1) := dk_43 (by decide +kernel)
theorem dX4_fewestDays_78 : decode cX4_fewestDays 78 = .ok (.getfield 172, 3) := dk_180 (a := 0) (b := 172) (by decide +kernel) rfl
theorem dX4_fewestDays_81 : decode cX4_fewestDays 81 = .ok (.bipush 7, 2) := dk_16 (a := 7) (by decide +kernel) (by decide +kernel)
theorem dX4_fewestDays_83 : decode cX4_fewestDays 83 = .ok (.iadd, 1) := dk_96 (by decide +kernel)
theorem dX4_fewestDays_84 : decode cX4_fewestDays 84 = .ok (.if_icmp .ge 28, 3) := dk_162 (a := 0) (b := 28) (by decide +kernel) (by decide +kernel)
theorem dX4_fewestDays_87 : decode cX4_fewestDays 87 = .ok (.aload_n 0, 1) := dk_42 (by decide +kernel)
theorem dX4_fewestDays_88 : decode cX4_fewestDays 88 = .ok (.iload_n 3, 1) := dk_29 (by decide +kernel)
theorem dX4_fewestDays_89 : decode cX4_fewestDays 89 = .ok (.aload_n 0, 1) := dk_42 (by decide +kernel)
theorem dX4_fewestDays_90 : decode cX4_fewestDays 90 = .ok (.aload_n 1, 1) := dk_43 (by decide +kernel)
theorem dX4_fewestDays_91 : decode cX4_fewestDays 91 = .ok (.iload 4, 2) := dk_21 (a := 4) (by decide +kernel)
theorem dX4_fewestDays_93 : decode cX4_fewestDays 93 = .ok (.invokevirtual 81, 3) := dk_182 (a := 0) (b := 81) (by decide +kernel) rfl
theorem dX4_fewestDays_96 : decode cX4_fewestDays 96 = .ok (.aload_n 0, 1) := dk_42 (by decide +kernel)
theorem dX4_fewestDays_97 : decode cX4_fewestDays 97 = .ok (.iload 4, 2) := dk_21 (a := 4) (by decide +kernel)
theorem dX4_fewestDays_99 : decode cX4_fewestDays 99 = .ok (.invokevirtual 175, 3) := dk_182 (a := 0) (b := 175) (by decide +kernel) rfl
theorem dX4_fewestDays_102 : decode cX4_fewestDays 102 = .ok (.iand, 1) := dk_126 (by decide +kernel)
theorem dX4_fewestDays_103 : decode cX4_fewestDays 103 = .ok (.invokevirtual 178, 3) := dk_182 (a := 0) (b := 178) (by decide +kernel) rfl
theorem dX4_fewestDays_106 : decode cX4_fewestDays 106 = .ok (.iinc 4 1, 3) := dk_132 (a := 4) (b := 1) (by decide +kernel) (by decide +kernel)
theorem dX4_fewestDays_109 : decode cX4_fewestDays 109 = .ok (.goto (-34), 3) := dk_167 (a := 255) (b := 222) (by decide +kernel) (by decide +kernel)
theorem dX4_fewestDays_112 : decode cX4_fewestDays 112 = .ok (.aload_n 0, 1) := dk_42 (by decide +kernel)
theorem dX4_fewestDays_113 : decode cX4_fewestDays 113 = .ok (.getfield 46, 3) := dk_180 (a := 0) (b := 46) (by decide +kernel) rfl
theorem dX4_fewestDays_116 : decode cX4_fewestDays 116 = .ok (.iload_n 3, 1) := dk_29 (by decide +kernel)
theorem dX4_fewestDays_117 : decode cX4_fewestDays 117 = .ok (.iaload, 1) := dk_46 (by decide +kernel)
theorem dX4_fewestDays_118 : decode cX4_fewestDays 118 = .ok (.sipush 1000, 3) := dk_17 (a := 3) (b := 232) (by decide +kernel) (by decide +kernel)
theorem dX4_fewestDays_121 : decode cX4_fewestDays 121 = .ok (.if_icmp .lt 7, 3) := dk_161 (a := 0) (b := 7) (by decide +kernel) (by decide +kernel)
theorem dX4_fewestDays_124 : decode cX4_fewestDays 124 = .ok (.iconst (-1), 1) := dk_2 (by decide +kernel)
theorem dX4_fewestDays_125 : decode cX4_fewestDays 125 = .ok (.goto 9, 3) := dk_167 (a := 0) (b := 9) (by decide +kernel) (by decide +kernel)
theorem dX4_fewestDays_128 : decode cX4_fewestDays 128 = .ok (.aload_n 0, 1) := dk_42 (by decide +kernel)
theorem dX4_fewestDays_129 : decode cX4_fewestDays 129 = .ok (.getfield 46, 3) := dk_180 (a := 0) (b := 46) (by decide +kernel) rfl
theorem dX4_fewestDays_132 : decode cX4_fewestDays 132 = .ok (.iload_n 3, 1) := dk_29 (by decide +kernel)
theorem dX4_fewestDays_133 : decode cX4_fewestDays 133 = .ok (.iaload, 1) := dk_46 (by decide +kernel)
theorem dX4_fewestDays_134 : decode cX4_fewestDays 134 = .ok (.ireturn, 1) := dk_172 (by decide +kernel)
theorem dX4_gatherDeadlines_0 : decode cX4_gatherDeadlines 0 = .ok (.aload_n 0, 1) := dk_42 (by decide +kernel)
theorem dX4_gatherDeadlines_1 : decode cX4_gatherDeadlines 1 = .ok (.iconst 0, 1) := dk_3 (by decide +kernel)
theorem dX4_gatherDeadlines_2 : decode cX4_gatherDeadlines 2 = .ok (.putfield 53, 3) := dk_181 (a := 0) (b := 53) (by decide +kernel) rfl
theorem dX4_gatherDeadlines_5 : decode cX4_gatherDeadlines 5 = .ok (.iconst 0, 1) := dk_3 (by decide +kernel)
theorem dX4_gatherDeadlines_6 : decode cX4_gatherDeadlines 6 = .ok (.istore_n 3, 1) := dk_62 (by decide +kernel)
theorem dX4_gatherDeadlines_7 : decode cX4_gatherDeadlines 7 = .ok (.iload_n 3, 1) := dk_29 (by decide +kernel)
theorem dX4_gatherDeadlines_8 : decode cX4_gatherDeadlines 8 = .ok (.bipush 10, 2) := dk_16 (a := 10) (by decide +kernel) (by decide +kernel)
theorem dX4_gatherDeadlines_10 : decode cX4_gatherDeadlines 10 = .ok (.if_icmp .ge 147, 3) := dk_162 (a := 0) (b := 147) (by decide +kernel) (by decide +kernel)
theorem dX4_gatherDeadlines_13 : decode cX4_gatherDeadlines 13 = .ok (.aload_n 1, 1) := dk_43 (by decide +kernel)
theorem dX4_gatherDeadlines_14 : decode cX4_gatherDeadlines 14 = .ok (.getfield 67, 3) := dk_180 (a := 0) (b := 67) (by decide +kernel) rfl
theorem dX4_gatherDeadlines_17 : decode cX4_gatherDeadlines 17 = .ok (.iload_n 2, 1) := dk_28 (by decide +kernel)
theorem dX4_gatherDeadlines_18 : decode cX4_gatherDeadlines 18 = .ok (.iload_n 3, 1) := dk_29 (by decide +kernel)
theorem dX4_gatherDeadlines_19 : decode cX4_gatherDeadlines 19 = .ok (.invokevirtual 181, 3) := dk_182 (a := 0) (b := 181) (by decide +kernel) rfl
theorem dX4_gatherDeadlines_22 : decode cX4_gatherDeadlines 22 = .ok (.istore 4, 2) := dk_54 (a := 4) (by decide +kernel)
theorem dX4_gatherDeadlines_24 : decode cX4_gatherDeadlines 24 = .ok (.iload 4, 2) := dk_21 (a := 4) (by decide +kernel)
theorem dX4_gatherDeadlines_26 : decode cX4_gatherDeadlines 26 = .ok (.ifCond .ge 4, 3) := dk_156 (a := 0) (b := 4) (by decide +kernel) (by decide +kernel)
theorem dX4_gatherDeadlines_29 : decode cX4_gatherDeadlines 29 = .ok (.return_, 1) := dk_177 (by decide +kernel)
theorem dX4_gatherDeadlines_30 : decode cX4_gatherDeadlines 30 = .ok (.aload_n 0, 1) := dk_42 (by decide +kernel)
theorem dX4_gatherDeadlines_31 : decode cX4_gatherDeadlines 31 = .ok (.getfield 53, 3) := dk_180 (a := 0) (b := 53) (by decide +kernel) rfl
theorem dX4_gatherDeadlines_34 : decode cX4_gatherDeadlines 34 = .ok (.istore 5, 2) := dk_54 (a := 5) (by decide +kernel)
theorem dX4_gatherDeadlines_36 : decode cX4_gatherDeadlines 36 = .ok (.iconst 0, 1) := dk_3 (by decide +kernel)
theorem dX4_gatherDeadlines_37 : decode cX4_gatherDeadlines 37 = .ok (.istore 6, 2) := dk_54 (a := 6) (by decide +kernel)
theorem dX4_gatherDeadlines_39 : decode cX4_gatherDeadlines 39 = .ok (.iload 6, 2) := dk_21 (a := 6) (by decide +kernel)
theorem dX4_gatherDeadlines_41 : decode cX4_gatherDeadlines 41 = .ok (.aload_n 0, 1) := dk_42 (by decide +kernel)
theorem dX4_gatherDeadlines_42 : decode cX4_gatherDeadlines 42 = .ok (.getfield 53, 3) := dk_180 (a := 0) (b := 53) (by decide +kernel) rfl
theorem dX4_gatherDeadlines_45 : decode cX4_gatherDeadlines 45 = .ok (.if_icmp .ge 33, 3) := dk_162 (a := 0) (b := 33) (by decide +kernel) (by decide +kernel)
theorem dX4_gatherDeadlines_48 : decode cX4_gatherDeadlines 48 = .ok (.aload_n 0, 1) := dk_42 (by decide +kernel)
theorem dX4_gatherDeadlines_49 : decode cX4_gatherDeadlines 49 = .ok (.getfield 22, 3) := dk_180 (a := 0) (b := 22) (by decide +kernel) rfl
theorem dX4_gatherDeadlines_52 : decode cX4_gatherDeadlines 52 = .ok (.iload 6, 2) := dk_21 (a := 6) (by decide +kernel)
theorem dX4_gatherDeadlines_54 : decode cX4_gatherDeadlines 54 = .ok (.iaload, 1) := dk_46 (by decide +kernel)
theorem dX4_gatherDeadlines_55 : decode cX4_gatherDeadlines 55 = .ok (.aload_n 1, 1) := dk_43 (by decide +kernel)
theorem dX4_gatherDeadlines_56 : decode cX4_gatherDeadlines 56 = .ok (.getfield 67, 3) := dk_180 (a := 0) (b := 67) (by decide +kernel) rfl
theorem dX4_gatherDeadlines_59 : decode cX4_gatherDeadlines 59 = .ok (.getfield 184, 3) := dk_180 (a := 0) (b := 184) (by decide +kernel) rfl
theorem dX4_gatherDeadlines_62 : decode cX4_gatherDeadlines 62 = .ok (.iload 4, 2) := dk_21 (a := 4) (by decide +kernel)
theorem dX4_gatherDeadlines_64 : decode cX4_gatherDeadlines 64 = .ok (.iaload, 1) := dk_46 (by decide +kernel)
theorem dX4_gatherDeadlines_65 : decode cX4_gatherDeadlines 65 = .ok (.if_icmp .ne 7, 3) := dk_160 (a := 0) (b := 7) (by decide +kernel) (by decide +kernel)
theorem dX4_gatherDeadlines_68 : decode cX4_gatherDeadlines 68 = .ok (.iload 6, 2) := dk_21 (a := 6) (by decide +kernel)
theorem dX4_gatherDeadlines_70 : decode cX4_gatherDeadlines 70 = .ok (.istore 5, 2) := dk_54 (a := 5) (by decide +kernel)
theorem dX4_gatherDeadlines_72 : decode cX4_gatherDeadlines 72 = .ok (.iinc 6 1, 3) := dk_132 (a := 6) (b := 1) (by decide +kernel) (by decide +kernel)
theorem dX4_gatherDeadlines_75 : decode cX4_gatherDeadlines 75 = .ok (.goto (-36), 3) := dk_167 (a := 255) (b := 220) (by decide +kernel) (by decide +kernel)
theorem dX4_gatherDeadlines_78 : decode cX4_gatherDeadlines 78 = .ok (.iload 5, 2) := dk_21 (a := 5) (by decide +kernel)
theorem dX4_gatherDeadlines_80 : decode cX4_gatherDeadlines 80 = .ok (.aload_n 0, 1) := dk_42 (by decide +kernel)
theorem dX4_gatherDeadlines_81 : decode cX4_gatherDeadlines 81 = .ok (.getfield 53, 3) := dk_180 (a := 0) (b := 53) (by decide +kernel) rfl
theorem dX4_gatherDeadlines_84 : decode cX4_gatherDeadlines 84 = .ok (.if_icmp .ne 40, 3) := dk_160 (a := 0) (b := 40) (by decide +kernel) (by decide +kernel)
theorem dX4_gatherDeadlines_87 : decode cX4_gatherDeadlines 87 = .ok (.aload_n 0, 1) := dk_42 (by decide +kernel)
theorem dX4_gatherDeadlines_88 : decode cX4_gatherDeadlines 88 = .ok (.getfield 22, 3) := dk_180 (a := 0) (b := 22) (by decide +kernel) rfl
theorem dX4_gatherDeadlines_91 : decode cX4_gatherDeadlines 91 = .ok (.iload 5, 2) := dk_21 (a := 5) (by decide +kernel)
theorem dX4_gatherDeadlines_93 : decode cX4_gatherDeadlines 93 = .ok (.aload_n 1, 1) := dk_43 (by decide +kernel)
theorem dX4_gatherDeadlines_94 : decode cX4_gatherDeadlines 94 = .ok (.getfield 67, 3) := dk_180 (a := 0) (b := 67) (by decide +kernel) rfl
theorem dX4_gatherDeadlines_97 : decode cX4_gatherDeadlines 97 = .ok (.getfield 184, 3) := dk_180 (a := 0) (b := 184) (by decide +kernel) rfl
theorem dX4_gatherDeadlines_100 : decode cX4_gatherDeadlines 100 = .ok (.iload 4, 2) := dk_21 (a := 4) (by decide +kernel)
theorem dX4_gatherDeadlines_102 : decode cX4_gatherDeadlines 102 = .ok (.iaload, 1) := dk_46 (by decide +kernel)
theorem dX4_gatherDeadlines_103 : decode cX4_gatherDeadlines 103 = .ok (.iastore, 1) := dk_79 (by decide +kernel)
theorem dX4_gatherDeadlines_104 : decode cX4_gatherDeadlines 104 = .ok (.aload_n 0, 1) := dk_42 (by decide +kernel)
theorem dX4_gatherDeadlines_105 : decode cX4_gatherDeadlines 105 = .ok (.getfield 25, 3) := dk_180 (a := 0) (b := 25) (by decide +kernel) rfl
theorem dX4_gatherDeadlines_108 : decode cX4_gatherDeadlines 108 = .ok (.iload 5, 2) := dk_21 (a := 5) (by decide +kernel)
theorem dX4_gatherDeadlines_110 : decode cX4_gatherDeadlines 110 = .ok (.sipush 399, 3) := dk_17 (a := 1) (b := 143) (by decide +kernel) (by decide +kernel)
theorem dX4_gatherDeadlines_113 : decode cX4_gatherDeadlines 113 = .ok (.iastore, 1) := dk_79 (by decide +kernel)
theorem dX4_gatherDeadlines_114 : decode cX4_gatherDeadlines 114 = .ok (.aload_n 0, 1) := dk_42 (by decide +kernel)
theorem dX4_gatherDeadlines_115 : decode cX4_gatherDeadlines 115 = .ok (.dup, 1) := dk_89 (by decide +kernel)
theorem dX4_gatherDeadlines_116 : decode cX4_gatherDeadlines 116 = .ok (.getfield 53, 3) := dk_180 (a := 0) (b := 53) (by decide +kernel) rfl
theorem dX4_gatherDeadlines_119 : decode cX4_gatherDeadlines 119 = .ok (.iconst 1, 1) := dk_4 (by decide +kernel)
theorem dX4_gatherDeadlines_120 : decode cX4_gatherDeadlines 120 = .ok (.iadd, 1) := dk_96 (by decide +kernel)
theorem dX4_gatherDeadlines_121 : decode cX4_gatherDeadlines 121 = .ok (.putfield 53, 3) := dk_181 (a := 0) (b := 53) (by decide +kernel) rfl
theorem dX4_gatherDeadlines_124 : decode cX4_gatherDeadlines 124 = .ok (.aload_n 0, 1) := dk_42 (by decide +kernel)
theorem dX4_gatherDeadlines_125 : decode cX4_gatherDeadlines 125 = .ok (.getfield 25, 3) := dk_180 (a := 0) (b := 25) (by decide +kernel) rfl
theorem dX4_gatherDeadlines_128 : decode cX4_gatherDeadlines 128 = .ok (.iload 5, 2) := dk_21 (a := 5) (by decide +kernel)
theorem dX4_gatherDeadlines_130 : decode cX4_gatherDeadlines 130 = .ok (.aload_n 0, 1) := dk_42 (by decide +kernel)
theorem dX4_gatherDeadlines_131 : decode cX4_gatherDeadlines 131 = .ok (.getfield 25, 3) := dk_180 (a := 0) (b := 25) (by decide +kernel) rfl
theorem dX4_gatherDeadlines_134 : decode cX4_gatherDeadlines 134 = .ok (.iload 5, 2) := dk_21 (a := 5) (by decide +kernel)
theorem dX4_gatherDeadlines_136 : decode cX4_gatherDeadlines 136 = .ok (.iaload, 1) := dk_46 (by decide +kernel)
theorem dX4_gatherDeadlines_137 : decode cX4_gatherDeadlines 137 = .ok (.aload_n 1, 1) := dk_43 (by decide +kernel)
theorem dX4_gatherDeadlines_138 : decode cX4_gatherDeadlines 138 = .ok (.getfield 67, 3) := dk_180 (a := 0) (b := 67) (by decide +kernel) rfl
theorem dX4_gatherDeadlines_141 : decode cX4_gatherDeadlines 141 = .ok (.getfield 187, 3) := dk_180 (a := 0) (b := 187) (by decide +kernel) rfl
theorem dX4_gatherDeadlines_144 : decode cX4_gatherDeadlines 144 = .ok (.iload 4, 2) := dk_21 (a := 4) (by decide +kernel)
theorem dX4_gatherDeadlines_146 : decode cX4_gatherDeadlines 146 = .ok (.iaload, 1) := dk_46 (by decide +kernel)
theorem dX4_gatherDeadlines_147 : decode cX4_gatherDeadlines 147 = .ok (.invokestatic 136, 3) := dk_184 (a := 0) (b := 136) (by decide +kernel) rfl
theorem dX4_gatherDeadlines_150 : decode cX4_gatherDeadlines 150 = .ok (.iastore, 1) := dk_79 (by decide +kernel)
theorem dX4_gatherDeadlines_151 : decode cX4_gatherDeadlines 151 = .ok (.iinc 3 1, 3) := dk_132 (a := 3) (b := 1) (by decide +kernel) (by decide +kernel)
theorem dX4_gatherDeadlines_154 : decode cX4_gatherDeadlines 154 = .ok (.goto (-147), 3) := dk_167 (a := 255) (b := 109) (by decide +kernel) (by decide +kernel)
theorem dX4_gatherDeadlines_157 : decode cX4_gatherDeadlines 157 = .ok (.return_, 1) := dk_177 (by decide +kernel)
theorem dX4_inTime_0 : decode cX4_inTime 0 = .ok (.iconst 0, 1) := dk_3 (by decide +kernel)
theorem dX4_inTime_1 : decode cX4_inTime 1 = .ok (.istore_n 2, 1) := dk_61 (by decide +kernel)
theorem dX4_inTime_2 : decode cX4_inTime 2 = .ok (.iconst 0, 1) := dk_3 (by decide +kernel)
theorem dX4_inTime_3 : decode cX4_inTime 3 = .ok (.istore_n 3, 1) := dk_62 (by decide +kernel)
theorem dX4_inTime_4 : decode cX4_inTime 4 = .ok (.iload_n 3, 1) := dk_29 (by decide +kernel)
theorem dX4_inTime_5 : decode cX4_inTime 5 = .ok (.aload_n 0, 1) := dk_42 (by decide +kernel)
theorem dX4_inTime_6 : decode cX4_inTime 6 = .ok (.getfield 53, 3) := dk_180 (a := 0) (b := 53) (by decide +kernel) rfl
theorem dX4_inTime_9 : decode cX4_inTime 9 = .ok (.if_icmp .ge 25, 3) := dk_162 (a := 0) (b := 25) (by decide +kernel) (by decide +kernel)
theorem dX4_inTime_12 : decode cX4_inTime 12 = .ok (.iload_n 1, 1) := dk_27 (by decide +kernel)
theorem dX4_inTime_13 : decode cX4_inTime 13 = .ok (.aload_n 0, 1) := dk_42 (by decide +kernel)
theorem dX4_inTime_14 : decode cX4_inTime 14 = .ok (.getfield 25, 3) := dk_180 (a := 0) (b := 25) (by decide +kernel) rfl
theorem dX4_inTime_17 : decode cX4_inTime 17 = .ok (.iload_n 3, 1) := dk_29 (by decide +kernel)
theorem dX4_inTime_18 : decode cX4_inTime 18 = .ok (.iaload, 1) := dk_46 (by decide +kernel)
theorem dX4_inTime_19 : decode cX4_inTime 19 = .ok (.if_icmp .gt 9, 3) := dk_163 (a := 0) (b := 9) (by decide +kernel) (by decide +kernel)
theorem dX4_inTime_22 : decode cX4_inTime 22 = .ok (.iload_n 2, 1) := dk_28 (by decide +kernel)
theorem dX4_inTime_23 : decode cX4_inTime 23 = .ok (.iconst 1, 1) := dk_4 (by decide +kernel)
theorem dX4_inTime_24 : decode cX4_inTime 24 = .ok (.iload_n 3, 1) := dk_29 (by decide +kernel)
theorem dX4_inTime_25 : decode cX4_inTime 25 = .ok (.ishl, 1) := dk_120 (by decide +kernel)
theorem dX4_inTime_26 : decode cX4_inTime 26 = .ok (.ior, 1) := dk_128 (by decide +kernel)
theorem dX4_inTime_27 : decode cX4_inTime 27 = .ok (.istore_n 2, 1) := dk_61 (by decide +kernel)
theorem dX4_inTime_28 : decode cX4_inTime 28 = .ok (.iinc 3 1, 3) := dk_132 (a := 3) (b := 1) (by decide +kernel) (by decide +kernel)
theorem dX4_inTime_31 : decode cX4_inTime 31 = .ok (.goto (-27), 3) := dk_167 (a := 255) (b := 229) (by decide +kernel) (by decide +kernel)
theorem dX4_inTime_34 : decode cX4_inTime 34 = .ok (.iload_n 2, 1) := dk_28 (by decide +kernel)
theorem dX4_inTime_35 : decode cX4_inTime 35 = .ok (.ireturn, 1) := dk_172 (by decide +kernel)
theorem dX4_addDay_0 : decode cX4_addDay 0 = .ok (.iload_n 1, 1) := dk_27 (by decide +kernel)
theorem dX4_addDay_1 : decode cX4_addDay 1 = .ok (.istore_n 3, 1) := dk_62 (by decide +kernel)
theorem dX4_addDay_2 : decode cX4_addDay 2 = .ok (.iload_n 3, 1) := dk_29 (by decide +kernel)
theorem dX4_addDay_3 : decode cX4_addDay 3 = .ok (.ifCond .le 121, 3) := dk_158 (a := 0) (b := 121) (by decide +kernel) (by decide +kernel)
theorem dX4_addDay_6 : decode cX4_addDay 6 = .ok (.iload_n 3, 1) := dk_29 (by decide +kernel)
theorem dX4_addDay_7 : decode cX4_addDay 7 = .ok (.iload_n 2, 1) := dk_28 (by decide +kernel)
theorem dX4_addDay_8 : decode cX4_addDay 8 = .ok (.iand, 1) := dk_126 (by decide +kernel)
theorem dX4_addDay_9 : decode cX4_addDay 9 = .ok (.istore 4, 2) := dk_54 (a := 4) (by decide +kernel)
theorem dX4_addDay_11 : decode cX4_addDay 11 = .ok (.iload 4, 2) := dk_21 (a := 4) (by decide +kernel)
theorem dX4_addDay_13 : decode cX4_addDay 13 = .ok (.ifCond .eq 45, 3) := dk_153 (a := 0) (b := 45) (by decide +kernel) (by decide +kernel)
theorem dX4_addDay_16 : decode cX4_addDay 16 = .ok (.aload_n 0, 1) := dk_42 (by decide +kernel)
theorem dX4_addDay_17 : decode cX4_addDay 17 = .ok (.getfield 43, 3) := dk_180 (a := 0) (b := 43) (by decide +kernel) rfl
theorem dX4_addDay_20 : decode cX4_addDay 20 = .ok (.iload 4, 2) := dk_21 (a := 4) (by decide +kernel)
theorem dX4_addDay_22 : decode cX4_addDay 22 = .ok (.iaload, 1) := dk_46 (by decide +kernel)
theorem dX4_addDay_23 : decode cX4_addDay 23 = .ok (.sipush 1000, 3) := dk_17 (a := 3) (b := 232) (by decide +kernel) (by decide +kernel)
theorem dX4_addDay_26 : decode cX4_addDay 26 = .ok (.if_icmp .ge 32, 3) := dk_162 (a := 0) (b := 32) (by decide +kernel) (by decide +kernel)
theorem dX4_addDay_29 : decode cX4_addDay 29 = .ok (.aload_n 0, 1) := dk_42 (by decide +kernel)
theorem dX4_addDay_30 : decode cX4_addDay 30 = .ok (.getfield 46, 3) := dk_180 (a := 0) (b := 46) (by decide +kernel) rfl
theorem dX4_addDay_33 : decode cX4_addDay 33 = .ok (.iload_n 3, 1) := dk_29 (by decide +kernel)
theorem dX4_addDay_34 : decode cX4_addDay 34 = .ok (.aload_n 0, 1) := dk_42 (by decide +kernel)
theorem dX4_addDay_35 : decode cX4_addDay 35 = .ok (.getfield 46, 3) := dk_180 (a := 0) (b := 46) (by decide +kernel) rfl
theorem dX4_addDay_38 : decode cX4_addDay 38 = .ok (.iload_n 3, 1) := dk_29 (by decide +kernel)
theorem dX4_addDay_39 : decode cX4_addDay 39 = .ok (.iaload, 1) := dk_46 (by decide +kernel)
theorem dX4_addDay_40 : decode cX4_addDay 40 = .ok (.aload_n 0, 1) := dk_42 (by decide +kernel)
theorem dX4_addDay_41 : decode cX4_addDay 41 = .ok (.getfield 46, 3) := dk_180 (a := 0) (b := 46) (by decide +kernel) rfl
theorem dX4_addDay_44 : decode cX4_addDay 44 = .ok (.iload_n 3, 1) := dk_29 (by decide +kernel)
theorem dX4_addDay_45 : decode cX4_addDay 45 = .ok (.iload 4, 2) := dk_21 (a := 4) (by decide +kernel)
theorem dX4_addDay_47 : decode cX4_addDay 47 = .ok (.ixor, 1) := dk_130 (by decide +kernel)
theorem dX4_addDay_48 : decode cX4_addDay 48 = .ok (.iaload, 1) := dk_46 (by decide +kernel)
theorem dX4_addDay_49 : decode cX4_addDay 49 = .ok (.iconst 1, 1) := dk_4 (by decide +kernel)
theorem dX4_addDay_50 : decode cX4_addDay 50 = .ok (.iadd, 1) := dk_96 (by decide +kernel)
theorem dX4_addDay_51 : decode cX4_addDay 51 = .ok (.invokestatic 136, 3) := dk_184 (a := 0) (b := 136) (by decide +kernel) rfl
theorem dX4_addDay_54 : decode cX4_addDay 54 = .ok (.iastore, 1) := dk_79 (by decide +kernel)
theorem dX4_addDay_55 : decode cX4_addDay 55 = .ok (.goto 63, 3) := dk_167 (a := 0) (b := 63) (by decide +kernel) (by decide +kernel)
theorem dX4_addDay_58 : decode cX4_addDay 58 = .ok (.iload 4, 2) := dk_21 (a := 4) (by decide +kernel)
theorem dX4_addDay_60 : decode cX4_addDay 60 = .ok (.istore 5, 2) := dk_54 (a := 5) (by decide +kernel)
theorem dX4_addDay_62 : decode cX4_addDay 62 = .ok (.iload 5, 2) := dk_21 (a := 5) (by decide +kernel)
theorem dX4_addDay_64 : decode cX4_addDay 64 = .ok (.ifCond .le 54, 3) := dk_158 (a := 0) (b := 54) (by decide +kernel) (by decide +kernel)
theorem dX4_addDay_67 : decode cX4_addDay 67 = .ok (.aload_n 0, 1) := dk_42 (by decide +kernel)
theorem dX4_addDay_68 : decode cX4_addDay 68 = .ok (.getfield 43, 3) := dk_180 (a := 0) (b := 43) (by decide +kernel) rfl
theorem dX4_addDay_71 : decode cX4_addDay 71 = .ok (.iload 5, 2) := dk_21 (a := 5) (by decide +kernel)
theorem dX4_addDay_73 : decode cX4_addDay 73 = .ok (.iaload, 1) := dk_46 (by decide +kernel)
theorem dX4_addDay_74 : decode cX4_addDay 74 = .ok (.sipush 1000, 3) := dk_17 (a := 3) (b := 232) (by decide +kernel) (by decide +kernel)
theorem dX4_addDay_77 : decode cX4_addDay 77 = .ok (.if_icmp .ge 29, 3) := dk_162 (a := 0) (b := 29) (by decide +kernel) (by decide +kernel)
theorem dX4_addDay_80 : decode cX4_addDay 80 = .ok (.aload_n 0, 1) := dk_42 (by decide +kernel)
theorem dX4_addDay_81 : decode cX4_addDay 81 = .ok (.getfield 46, 3) := dk_180 (a := 0) (b := 46) (by decide +kernel) rfl
theorem dX4_addDay_84 : decode cX4_addDay 84 = .ok (.iload_n 3, 1) := dk_29 (by decide +kernel)
theorem dX4_addDay_85 : decode cX4_addDay 85 = .ok (.aload_n 0, 1) := dk_42 (by decide +kernel)
theorem dX4_addDay_86 : decode cX4_addDay 86 = .ok (.getfield 46, 3) := dk_180 (a := 0) (b := 46) (by decide +kernel) rfl
theorem dX4_addDay_89 : decode cX4_addDay 89 = .ok (.iload_n 3, 1) := dk_29 (by decide +kernel)
theorem dX4_addDay_90 : decode cX4_addDay 90 = .ok (.iaload, 1) := dk_46 (by decide +kernel)
theorem dX4_addDay_91 : decode cX4_addDay 91 = .ok (.aload_n 0, 1) := dk_42 (by decide +kernel)
theorem dX4_addDay_92 : decode cX4_addDay 92 = .ok (.getfield 46, 3) := dk_180 (a := 0) (b := 46) (by decide +kernel) rfl
theorem dX4_addDay_95 : decode cX4_addDay 95 = .ok (.iload_n 3, 1) := dk_29 (by decide +kernel)
theorem dX4_addDay_96 : decode cX4_addDay 96 = .ok (.iload 5, 2) := dk_21 (a := 5) (by decide +kernel)
theorem dX4_addDay_98 : decode cX4_addDay 98 = .ok (.ixor, 1) := dk_130 (by decide +kernel)
theorem dX4_addDay_99 : decode cX4_addDay 99 = .ok (.iaload, 1) := dk_46 (by decide +kernel)
theorem dX4_addDay_100 : decode cX4_addDay 100 = .ok (.iconst 1, 1) := dk_4 (by decide +kernel)
theorem dX4_addDay_101 : decode cX4_addDay 101 = .ok (.iadd, 1) := dk_96 (by decide +kernel)
theorem dX4_addDay_102 : decode cX4_addDay 102 = .ok (.invokestatic 136, 3) := dk_184 (a := 0) (b := 136) (by decide +kernel) rfl
theorem dX4_addDay_105 : decode cX4_addDay 105 = .ok (.iastore, 1) := dk_79 (by decide +kernel)
theorem dX4_addDay_106 : decode cX4_addDay 106 = .ok (.iload 5, 2) := dk_21 (a := 5) (by decide +kernel)
theorem dX4_addDay_108 : decode cX4_addDay 108 = .ok (.iconst 1, 1) := dk_4 (by decide +kernel)
theorem dX4_addDay_109 : decode cX4_addDay 109 = .ok (.isub, 1) := dk_100 (by decide +kernel)
theorem dX4_addDay_110 : decode cX4_addDay 110 = .ok (.iload 4, 2) := dk_21 (a := 4) (by decide +kernel)
theorem dX4_addDay_112 : decode cX4_addDay 112 = .ok (.iand, 1) := dk_126 (by decide +kernel)
theorem dX4_addDay_113 : decode cX4_addDay 113 = .ok (.istore 5, 2) := dk_54 (a := 5) (by decide +kernel)
theorem dX4_addDay_115 : decode cX4_addDay 115 = .ok (.goto (-53), 3) := dk_167 (a := 255) (b := 203) (by decide +kernel) (by decide +kernel)
theorem dX4_addDay_118 : decode cX4_addDay 118 = .ok (.iinc 3 (-1), 3) := dk_132 (a := 3) (b := 255) (by decide +kernel) (by decide +kernel)
theorem dX4_addDay_121 : decode cX4_addDay 121 = .ok (.goto (-119), 3) := dk_167 (a := 255) (b := 137) (by decide +kernel) (by decide +kernel)
theorem dX4_addDay_124 : decode cX4_addDay 124 = .ok (.return_, 1) := dk_177 (by decide +kernel)
theorem dX4_lostBits_0 : decode cX4_lostBits 0 = .ok (.iconst 0, 1) := dk_3 (by decide +kernel)
theorem dX4_lostBits_1 : decode cX4_lostBits 1 = .ok (.istore_n 3, 1) := dk_62 (by decide +kernel)
theorem dX4_lostBits_2 : decode cX4_lostBits 2 = .ok (.iconst 0, 1) := dk_3 (by decide +kernel)
theorem dX4_lostBits_3 : decode cX4_lostBits 3 = .ok (.istore 4, 2) := dk_54 (a := 4) (by decide +kernel)
theorem dX4_lostBits_5 : decode cX4_lostBits 5 = .ok (.iload 4, 2) := dk_21 (a := 4) (by decide +kernel)
theorem dX4_lostBits_7 : decode cX4_lostBits 7 = .ok (.bipush 10, 2) := dk_16 (a := 10) (by decide +kernel) (by decide +kernel)
theorem dX4_lostBits_9 : decode cX4_lostBits 9 = .ok (.if_icmp .ge 62, 3) := dk_162 (a := 0) (b := 62) (by decide +kernel) (by decide +kernel)
theorem dX4_lostBits_12 : decode cX4_lostBits 12 = .ok (.aload_n 1, 1) := dk_43 (by decide +kernel)
theorem dX4_lostBits_13 : decode cX4_lostBits 13 = .ok (.getfield 67, 3) := dk_180 (a := 0) (b := 67) (by decide +kernel) rfl
theorem dX4_lostBits_16 : decode cX4_lostBits 16 = .ok (.iload_n 2, 1) := dk_28 (by decide +kernel)
theorem dX4_lostBits_17 : decode cX4_lostBits 17 = .ok (.iload 4, 2) := dk_21 (a := 4) (by decide +kernel)
theorem dX4_lostBits_19 : decode cX4_lostBits 19 = .ok (.invokevirtual 181, 3) := dk_182 (a := 0) (b := 181) (by decide +kernel) rfl
theorem dX4_lostBits_22 : decode cX4_lostBits 22 = .ok (.istore 5, 2) := dk_54 (a := 5) (by decide +kernel)
theorem dX4_lostBits_24 : decode cX4_lostBits 24 = .ok (.iload 5, 2) := dk_21 (a := 5) (by decide +kernel)
theorem dX4_lostBits_26 : decode cX4_lostBits 26 = .ok (.ifCond .lt 39, 3) := dk_155 (a := 0) (b := 39) (by decide +kernel) (by decide +kernel)
theorem dX4_lostBits_29 : decode cX4_lostBits 29 = .ok (.aload_n 0, 1) := dk_42 (by decide +kernel)
theorem dX4_lostBits_30 : decode cX4_lostBits 30 = .ok (.aload_n 1, 1) := dk_43 (by decide +kernel)
theorem dX4_lostBits_31 : decode cX4_lostBits 31 = .ok (.iload_n 2, 1) := dk_28 (by decide +kernel)
theorem dX4_lostBits_32 : decode cX4_lostBits 32 = .ok (.aload_n 1, 1) := dk_43 (by decide +kernel)
theorem dX4_lostBits_33 : decode cX4_lostBits 33 = .ok (.getfield 67, 3) := dk_180 (a := 0) (b := 67) (by decide +kernel) rfl
theorem dX4_lostBits_36 : decode cX4_lostBits 36 = .ok (.getfield 184, 3) := dk_180 (a := 0) (b := 184) (by decide +kernel) rfl
theorem dX4_lostBits_39 : decode cX4_lostBits 39 = .ok (.iload 5, 2) := dk_21 (a := 5) (by decide +kernel)
theorem dX4_lostBits_41 : decode cX4_lostBits 41 = .ok (.iaload, 1) := dk_46 (by decide +kernel)
theorem dX4_lostBits_42 : decode cX4_lostBits 42 = .ok (.aload_n 1, 1) := dk_43 (by decide +kernel)
theorem dX4_lostBits_43 : decode cX4_lostBits 43 = .ok (.getfield 67, 3) := dk_180 (a := 0) (b := 67) (by decide +kernel) rfl
theorem dX4_lostBits_46 : decode cX4_lostBits 46 = .ok (.getfield 187, 3) := dk_180 (a := 0) (b := 187) (by decide +kernel) rfl
theorem dX4_lostBits_49 : decode cX4_lostBits 49 = .ok (.iload 5, 2) := dk_21 (a := 5) (by decide +kernel)
theorem dX4_lostBits_51 : decode cX4_lostBits 51 = .ok (.iaload, 1) := dk_46 (by decide +kernel)
theorem dX4_lostBits_52 : decode cX4_lostBits 52 = .ok (.invokevirtual 190, 3) := dk_182 (a := 0) (b := 190) (by decide +kernel) rfl
theorem dX4_lostBits_55 : decode cX4_lostBits 55 = .ok (.ifCond .ne 10, 3) := dk_154 (a := 0) (b := 10) (by decide +kernel) (by decide +kernel)
theorem dX4_lostBits_58 : decode cX4_lostBits 58 = .ok (.iload_n 3, 1) := dk_29 (by decide +kernel)
theorem dX4_lostBits_59 : decode cX4_lostBits 59 = .ok (.iconst 1, 1) := dk_4 (by decide +kernel)
theorem dX4_lostBits_60 : decode cX4_lostBits 60 = .ok (.iload 4, 2) := dk_21 (a := 4) (by decide +kernel)
theorem dX4_lostBits_62 : decode cX4_lostBits 62 = .ok (.ishl, 1) := dk_120 (by decide +kernel)
theorem dX4_lostBits_63 : decode cX4_lostBits 63 = .ok (.ior, 1) := dk_128 (by decide +kernel)
theorem dX4_lostBits_64 : decode cX4_lostBits 64 = .ok (.istore_n 3, 1) := dk_62 (by decide +kernel)
theorem dX4_lostBits_65 : decode cX4_lostBits 65 = .ok (.iinc 4 1, 3) := dk_132 (a := 4) (b := 1) (by decide +kernel) (by decide +kernel)
theorem dX4_lostBits_68 : decode cX4_lostBits 68 = .ok (.goto (-63), 3) := dk_167 (a := 255) (b := 193) (by decide +kernel) (by decide +kernel)
theorem dX4_lostBits_71 : decode cX4_lostBits 71 = .ok (.iload_n 3, 1) := dk_29 (by decide +kernel)
theorem dX4_lostBits_72 : decode cX4_lostBits 72 = .ok (.ireturn, 1) := dk_172 (by decide +kernel)
theorem dX4_canBeSeen_0 : decode cX4_canBeSeen 0 = .ok (.aload_n 0, 1) := dk_42 (by decide +kernel)
theorem dX4_canBeSeen_1 : decode cX4_canBeSeen 1 = .ok (.aload_n 1, 1) := dk_43 (by decide +kernel)
theorem dX4_canBeSeen_2 : decode cX4_canBeSeen 2 = .ok (.iload_n 2, 1) := dk_28 (by decide +kernel)
theorem dX4_canBeSeen_3 : decode cX4_canBeSeen 3 = .ok (.iload_n 3, 1) := dk_29 (by decide +kernel)
theorem dX4_canBeSeen_4 : decode cX4_canBeSeen 4 = .ok (.invokevirtual 101, 3) := dk_182 (a := 0) (b := 101) (by decide +kernel) rfl
theorem dX4_canBeSeen_7 : decode cX4_canBeSeen 7 = .ok (.aload_n 0, 1) := dk_42 (by decide +kernel)
theorem dX4_canBeSeen_8 : decode cX4_canBeSeen 8 = .ok (.iload_n 3, 1) := dk_29 (by decide +kernel)
theorem dX4_canBeSeen_9 : decode cX4_canBeSeen 9 = .ok (.aload_n 1, 1) := dk_43 (by decide +kernel)
theorem dX4_canBeSeen_10 : decode cX4_canBeSeen 10 = .ok (.getfield 56, 3) := dk_180 (a := 0) (b := 56) (by decide +kernel) rfl
theorem dX4_canBeSeen_13 : decode cX4_canBeSeen 13 = .ok (.iload_n 2, 1) := dk_28 (by decide +kernel)
theorem dX4_canBeSeen_14 : decode cX4_canBeSeen 14 = .ok (.iload_n 3, 1) := dk_29 (by decide +kernel)
theorem dX4_canBeSeen_15 : decode cX4_canBeSeen 15 = .ok (.invokevirtual 105, 3) := dk_182 (a := 0) (b := 105) (by decide +kernel) rfl
theorem dX4_canBeSeen_18 : decode cX4_canBeSeen 18 = .ok (.invokevirtual 133, 3) := dk_182 (a := 0) (b := 133) (by decide +kernel) rfl
theorem dX4_canBeSeen_21 : decode cX4_canBeSeen 21 = .ok (.sipush 1000, 3) := dk_17 (a := 3) (b := 232) (by decide +kernel) (by decide +kernel)
theorem dX4_canBeSeen_24 : decode cX4_canBeSeen 24 = .ok (.if_icmp .lt 5, 3) := dk_161 (a := 0) (b := 5) (by decide +kernel) (by decide +kernel)
theorem dX4_canBeSeen_27 : decode cX4_canBeSeen 27 = .ok (.iconst 0, 1) := dk_3 (by decide +kernel)
theorem dX4_canBeSeen_28 : decode cX4_canBeSeen 28 = .ok (.ireturn, 1) := dk_172 (by decide +kernel)
theorem dX4_canBeSeen_29 : decode cX4_canBeSeen 29 = .ok (.aload_n 1, 1) := dk_43 (by decide +kernel)
theorem dX4_canBeSeen_30 : decode cX4_canBeSeen 30 = .ok (.getfield 172, 3) := dk_180 (a := 0) (b := 172) (by decide +kernel) rfl
theorem dX4_canBeSeen_33 : decode cX4_canBeSeen 33 = .ok (.istore 5, 2) := dk_54 (a := 5) (by decide +kernel)
theorem dX4_canBeSeen_35 : decode cX4_canBeSeen 35 = .ok (.iload 5, 2) := dk_21 (a := 5) (by decide +kernel)
theorem dX4_canBeSeen_37 : decode cX4_canBeSeen 37 = .ok (.aload_n 1, 1) := dk_43 (by decide +kernel)
theorem dX4_canBeSeen_38 : decode cX4_canBeSeen 38 = .ok (.getfield 172, 3) := dk_180 (a := 0) (b := 172) (by decide +kernel) rfl
theorem dX4_canBeSeen_41 : decode cX4_canBeSeen 41 = .ok (.bipush 7, 2) := dk_16 (a := 7) (by decide +kernel) (by decide +kernel)
theorem dX4_canBeSeen_43 : decode cX4_canBeSeen 43 = .ok (.iadd, 1) := dk_96 (by decide +kernel)
theorem dX4_canBeSeen_44 : decode cX4_canBeSeen 44 = .ok (.if_icmp .ge 29, 3) := dk_162 (a := 0) (b := 29) (by decide +kernel) (by decide +kernel)
theorem dX4_canBeSeen_47 : decode cX4_canBeSeen 47 = .ok (.iload 5, 2) := dk_21 (a := 5) (by decide +kernel)
theorem dX4_canBeSeen_49 : decode cX4_canBeSeen 49 = .ok (.iload 4, 2) := dk_21 (a := 4) (by decide +kernel)
theorem dX4_canBeSeen_51 : decode cX4_canBeSeen 51 = .ok (.if_icmp .gt 22, 3) := dk_163 (a := 0) (b := 22) (by decide +kernel) (by decide +kernel)
theorem dX4_canBeSeen_54 : decode cX4_canBeSeen 54 = .ok (.aload_n 1, 1) := dk_43 (by decide +kernel)
theorem dX4_canBeSeen_55 : decode cX4_canBeSeen 55 = .ok (.iload_n 2, 1) := dk_28 (by decide +kernel)
theorem dX4_canBeSeen_56 : decode cX4_canBeSeen 56 = .ok (.iload_n 3, 1) := dk_29 (by decide +kernel)
theorem dX4_canBeSeen_57 : decode cX4_canBeSeen 57 = .ok (.iload 5, 2) := dk_21 (a := 5) (by decide +kernel)
theorem dX4_canBeSeen_59 : decode cX4_canBeSeen 59 = .ok (.invokestatic 120, 3) := dk_184 (a := 0) (b := 120) (by decide +kernel) rfl
theorem dX4_canBeSeen_62 : decode cX4_canBeSeen 62 = .ok (.ifCond .eq 5, 3) := dk_153 (a := 0) (b := 5) (by decide +kernel) (by decide +kernel)
theorem dX4_canBeSeen_65 : decode cX4_canBeSeen 65 = .ok (.iconst 1, 1) := dk_4 (by decide +kernel)
theorem dX4_canBeSeen_66 : decode cX4_canBeSeen 66 = .ok (.ireturn, 1) := dk_172 (by decide +kernel)
theorem dX4_canBeSeen_67 : decode cX4_canBeSeen 67 = .ok (.iinc 5 1, 3) := dk_132 (a := 5) (b := 1) (by decide +kernel) (by decide +kernel)
theorem dX4_canBeSeen_70 : decode cX4_canBeSeen 70 = .ok (.goto (-35), 3) := dk_167 (a := 255) (b := 221) (by decide +kernel) (by decide +kernel)
theorem dX4_canBeSeen_73 : decode cX4_canBeSeen 73 = .ok (.iconst 0, 1) := dk_3 (by decide +kernel)
theorem dX4_canBeSeen_74 : decode cX4_canBeSeen 74 = .ok (.ireturn, 1) := dk_172 (by decide +kernel)
theorem dX5_init_0 : decode cX5_init 0 = .ok (.aload_n 0, 1) := dk_42 (by decide +kernel)
theorem dX5_init_1 : decode cX5_init 1 = .ok (.invokespecial 3, 3) := dk_183 (a := 0) (b := 3) (by decide +kernel) rfl
theorem dX5_init_4 : decode cX5_init 4 = .ok (.aload_n 0, 1) := dk_42 (by decide +kernel)
theorem dX5_init_5 : decode cX5_init 5 = .ok (.bipush 60, 2) := dk_16 (a := 60) (by decide +kernel) (by decide +kernel)
theorem dX5_init_7 : decode cX5_init 7 = .ok (.newarray .long, 2) := dk_188_11 (by decide +kernel)
theorem dX5_init_9 : decode cX5_init 9 = .ok (.putfield 9, 3) := dk_181 (a := 0) (b := 9) (by decide +kernel) rfl
theorem dX5_init_12 : decode cX5_init 12 = .ok (.return_, 1) := dk_177 (by decide +kernel)
theorem dX5_lay_0 : decode cX5_lay 0 = .ok (.aload_n 0, 1) := dk_42 (by decide +kernel)
theorem dX5_lay_1 : decode cX5_lay 1 = .ok (.iconst 1, 1) := dk_4 (by decide +kernel)
theorem dX5_lay_2 : decode cX5_lay 2 = .ok (.putfield 15, 3) := dk_181 (a := 0) (b := 15) (by decide +kernel) rfl
theorem dX5_lay_5 : decode cX5_lay 5 = .ok (.aload_n 0, 1) := dk_42 (by decide +kernel)
theorem dX5_lay_6 : decode cX5_lay 6 = .ok (.iload_n 1, 1) := dk_27 (by decide +kernel)
theorem dX5_lay_7 : decode cX5_lay 7 = .ok (.putfield 19, 3) := dk_181 (a := 0) (b := 19) (by decide +kernel) rfl
theorem dX5_lay_10 : decode cX5_lay 10 = .ok (.aload_n 0, 1) := dk_42 (by decide +kernel)
theorem dX5_lay_11 : decode cX5_lay 11 = .ok (.iload_n 2, 1) := dk_28 (by decide +kernel)
theorem dX5_lay_12 : decode cX5_lay 12 = .ok (.putfield 23, 3) := dk_181 (a := 0) (b := 23) (by decide +kernel) rfl
theorem dX5_lay_15 : decode cX5_lay 15 = .ok (.aload_n 0, 1) := dk_42 (by decide +kernel)
theorem dX5_lay_16 : decode cX5_lay 16 = .ok (.getfield 9, 3) := dk_180 (a := 0) (b := 9) (by decide +kernel) rfl
theorem dX5_lay_19 : decode cX5_lay 19 = .ok (.lconst 0, 1) := dk_9 (by decide +kernel)
theorem dX5_lay_20 : decode cX5_lay 20 = .ok (.invokestatic 26, 3) := dk_184 (a := 0) (b := 26) (by decide +kernel) rfl
theorem dX5_lay_23 : decode cX5_lay 23 = .ok (.return_, 1) := dk_177 (by decide +kernel)
theorem dX5_cut_0 : decode cX5_cut 0 = .ok (.aload_n 0, 1) := dk_42 (by decide +kernel)
theorem dX5_cut_1 : decode cX5_cut 1 = .ok (.getfield 19, 3) := dk_180 (a := 0) (b := 19) (by decide +kernel) rfl
theorem dX5_cut_4 : decode cX5_cut 4 = .ok (.tableswitch 42 0 2 #[28, 33, 38], 28) := by decide +kernel
theorem dX5_cut_32 : decode cX5_cut 32 = .ok (.lload_n 1, 1) := dk_31 (by decide +kernel)
theorem dX5_cut_33 : decode cX5_cut 33 = .ok (.l2i, 1) := dk_136 (by decide +kernel)
theorem dX5_cut_34 : decode cX5_cut 34 = .ok (.i2b, 1) := dk_145 (by decide +kernel)
theorem dX5_cut_35 : decode cX5_cut 35 = .ok (.i2l, 1) := dk_133 (by decide +kernel)
theorem dX5_cut_36 : decode cX5_cut 36 = .ok (.lreturn, 1) := dk_173 (by decide +kernel)
theorem dX5_cut_37 : decode cX5_cut 37 = .ok (.lload_n 1, 1) := dk_31 (by decide +kernel)
theorem dX5_cut_38 : decode cX5_cut 38 = .ok (.l2i, 1) := dk_136 (by decide +kernel)
theorem dX5_cut_39 : decode cX5_cut 39 = .ok (.i2s, 1) := dk_147 (by decide +kernel)
theorem dX5_cut_40 : decode cX5_cut 40 = .ok (.i2l, 1) := dk_133 (by decide +kernel)
theorem dX5_cut_41 : decode cX5_cut 41 = .ok (.lreturn, 1) := dk_173 (by decide +kernel)
theorem dX5_cut_42 : decode cX5_cut 42 = .ok (.lload_n 1, 1) := dk_31 (by decide +kernel)
theorem dX5_cut_43 : decode cX5_cut 43 = .ok (.l2i, 1) := dk_136 (by decide +kernel)
theorem dX5_cut_44 : decode cX5_cut 44 = .ok (.i2l, 1) := dk_133 (by decide +kernel)
theorem dX5_cut_45 : decode cX5_cut 45 = .ok (.lreturn, 1) := dk_173 (by decide +kernel)
theorem dX5_cut_46 : decode cX5_cut 46 = .ok (.lload_n 1, 1) := dk_31 (by decide +kernel)
theorem dX5_cut_47 : decode cX5_cut 47 = .ok (.lreturn, 1) := dk_173 (by decide +kernel)
theorem dX5_small_0 : decode cX5_small 0 = .ok (.iload_n 1, 1) := dk_27 (by decide +kernel)
theorem dX5_small_1 : decode cX5_small 1 = .ok (.ifCond .lt 35, 3) := dk_155 (a := 0) (b := 35) (by decide +kernel) (by decide +kernel)
theorem dX5_small_4 : decode cX5_small 4 = .ok (.iload_n 1, 1) := dk_27 (by decide +kernel)
theorem dX5_small_5 : decode cX5_small 5 = .ok (.aload_n 0, 1) := dk_42 (by decide +kernel)
theorem dX5_small_6 : decode cX5_small 6 = .ok (.getfield 23, 3) := dk_180 (a := 0) (b := 23) (by decide +kernel) rfl
theorem dX5_small_9 : decode cX5_small 9 = .ok (.if_icmp .ge 27, 3) := dk_162 (a := 0) (b := 27) (by decide +kernel) (by decide +kernel)
theorem dX5_small_12 : decode cX5_small 12 = .ok (.aload_n 0, 1) := dk_42 (by decide +kernel)
theorem dX5_small_13 : decode cX5_small 13 = .ok (.getfield 9, 3) := dk_180 (a := 0) (b := 9) (by decide +kernel) rfl
theorem dX5_small_16 : decode cX5_small 16 = .ok (.iload_n 1, 1) := dk_27 (by decide +kernel)
theorem dX5_small_17 : decode cX5_small 17 = .ok (.laload, 1) := dk_47 (by decide +kernel)
theorem dX5_small_18 : decode cX5_small 18 = .ok (.lconst 0, 1) := dk_9 (by decide +kernel)
theorem dX5_small_19 : decode cX5_small 19 = .ok (.lcmp, 1) := dk_148 (by decide +kernel)
theorem dX5_small_20 : decode cX5_small 20 = .ok (.ifCond .lt 16, 3) := dk_155 (a := 0) (b := 16) (by decide +kernel) (by decide +kernel)
theorem dX5_small_23 : decode cX5_small 23 = .ok (.aload_n 0, 1) := dk_42 (by decide +kernel)
theorem dX5_small_24 : decode cX5_small 24 = .ok (.getfield 9, 3) := dk_180 (a := 0) (b := 9) (by decide +kernel) rfl
theorem dX5_small_27 : decode cX5_small 27 = .ok (.iload_n 1, 1) := dk_27 (by decide +kernel)
theorem dX5_small_28 : decode cX5_small 28 = .ok (.laload, 1) := dk_47 (by decide +kernel)
theorem dX5_small_29 : decode cX5_small 29 = .ok (.ldc2_w 32, 3) := dk_20 (a := 0) (b := 32) (by decide +kernel) rfl
theorem dX5_small_32 : decode cX5_small 32 = .ok (.lcmp, 1) := dk_148 (by decide +kernel)
theorem dX5_small_33 : decode cX5_small 33 = .ok (.ifCond .lt 5, 3) := dk_155 (a := 0) (b := 5) (by decide +kernel) (by decide +kernel)
theorem dX5_small_36 : decode cX5_small 36 = .ok (.iconst (-1), 1) := dk_2 (by decide +kernel)
theorem dX5_small_37 : decode cX5_small 37 = .ok (.ireturn, 1) := dk_172 (by decide +kernel)
theorem dX5_small_38 : decode cX5_small 38 = .ok (.aload_n 0, 1) := dk_42 (by decide +kernel)
theorem dX5_small_39 : decode cX5_small 39 = .ok (.getfield 9, 3) := dk_180 (a := 0) (b := 9) (by decide +kernel) rfl
theorem dX5_small_42 : decode cX5_small 42 = .ok (.iload_n 1, 1) := dk_27 (by decide +kernel)
theorem dX5_small_43 : decode cX5_small 43 = .ok (.laload, 1) := dk_47 (by decide +kernel)
theorem dX5_small_44 : decode cX5_small 44 = .ok (.l2i, 1) := dk_136 (by decide +kernel)
theorem dX5_small_45 : decode cX5_small 45 = .ok (.ireturn, 1) := dk_172 (by decide +kernel)
theorem dX5_hasRun_0 : decode cX5_hasRun 0 = .ok (.iload_n 1, 1) := dk_27 (by decide +kernel)
theorem dX5_hasRun_1 : decode cX5_hasRun 1 = .ok (.ifCond .lt 29, 3) := dk_155 (a := 0) (b := 29) (by decide +kernel) (by decide +kernel)
theorem dX5_hasRun_4 : decode cX5_hasRun 4 = .ok (.iload_n 2, 1) := dk_28 (by decide +kernel)
theorem dX5_hasRun_5 : decode cX5_hasRun 5 = .ok (.ifCond .lt 25, 3) := dk_155 (a := 0) (b := 25) (by decide +kernel) (by decide +kernel)
theorem dX5_hasRun_8 : decode cX5_hasRun 8 = .ok (.iload_n 2, 1) := dk_28 (by decide +kernel)
theorem dX5_hasRun_9 : decode cX5_hasRun 9 = .ok (.aload_n 0, 1) := dk_42 (by decide +kernel)
theorem dX5_hasRun_10 : decode cX5_hasRun 10 = .ok (.getfield 23, 3) := dk_180 (a := 0) (b := 23) (by decide +kernel) rfl
theorem dX5_hasRun_13 : decode cX5_hasRun 13 = .ok (.if_icmp .gt 17, 3) := dk_163 (a := 0) (b := 17) (by decide +kernel) (by decide +kernel)
theorem dX5_hasRun_16 : decode cX5_hasRun 16 = .ok (.iload_n 1, 1) := dk_27 (by decide +kernel)
theorem dX5_hasRun_17 : decode cX5_hasRun 17 = .ok (.aload_n 0, 1) := dk_42 (by decide +kernel)
theorem dX5_hasRun_18 : decode cX5_hasRun 18 = .ok (.getfield 23, 3) := dk_180 (a := 0) (b := 23) (by decide +kernel) rfl
theorem dX5_hasRun_21 : decode cX5_hasRun 21 = .ok (.iload_n 2, 1) := dk_28 (by decide +kernel)
theorem dX5_hasRun_22 : decode cX5_hasRun 22 = .ok (.isub, 1) := dk_100 (by decide +kernel)
theorem dX5_hasRun_23 : decode cX5_hasRun 23 = .ok (.if_icmp .gt 7, 3) := dk_163 (a := 0) (b := 7) (by decide +kernel) (by decide +kernel)
theorem dX5_hasRun_26 : decode cX5_hasRun 26 = .ok (.iconst 1, 1) := dk_4 (by decide +kernel)
theorem dX5_hasRun_27 : decode cX5_hasRun 27 = .ok (.goto 4, 3) := dk_167 (a := 0) (b := 4) (by decide +kernel) (by decide +kernel)
theorem dX5_hasRun_30 : decode cX5_hasRun 30 = .ok (.iconst 0, 1) := dk_3 (by decide +kernel)
theorem dX5_hasRun_31 : decode cX5_hasRun 31 = .ok (.ireturn, 1) := dk_172 (by decide +kernel)
theorem dX6_init_0 : decode cX6_init 0 = .ok (.aload_n 0, 1) := dk_42 (by decide +kernel)
theorem dX6_init_1 : decode cX6_init 1 = .ok (.invokespecial 3, 3) := dk_183 (a := 0) (b := 3) (by decide +kernel) rfl
theorem dX6_init_4 : decode cX6_init 4 = .ok (.aload_n 0, 1) := dk_42 (by decide +kernel)
theorem dX6_init_5 : decode cX6_init 5 = .ok (.new 9, 3) := dk_187 (a := 0) (b := 9) (by decide +kernel) rfl
theorem dX6_init_8 : decode cX6_init 8 = .ok (.dup, 1) := dk_89 (by decide +kernel)
theorem dX6_init_9 : decode cX6_init 9 = .ok (.invokespecial 11, 3) := dk_183 (a := 0) (b := 11) (by decide +kernel) rfl
theorem dX6_init_12 : decode cX6_init 12 = .ok (.putfield 12, 3) := dk_181 (a := 0) (b := 12) (by decide +kernel) rfl
theorem dX6_init_15 : decode cX6_init 15 = .ok (.aload_n 0, 1) := dk_42 (by decide +kernel)
theorem dX6_init_16 : decode cX6_init 16 = .ok (.new 18, 3) := dk_187 (a := 0) (b := 18) (by decide +kernel) rfl
theorem dX6_init_19 : decode cX6_init 19 = .ok (.dup, 1) := dk_89 (by decide +kernel)
theorem dX6_init_20 : decode cX6_init 20 = .ok (.invokespecial 20, 3) := dk_183 (a := 0) (b := 20) (by decide +kernel) rfl
theorem dX6_init_23 : decode cX6_init 23 = .ok (.putfield 21, 3) := dk_181 (a := 0) (b := 21) (by decide +kernel) rfl
theorem dX6_init_26 : decode cX6_init 26 = .ok (.aload_n 0, 1) := dk_42 (by decide +kernel)
theorem dX6_init_27 : decode cX6_init 27 = .ok (.new 25, 3) := dk_187 (a := 0) (b := 25) (by decide +kernel) rfl
theorem dX6_init_30 : decode cX6_init 30 = .ok (.dup, 1) := dk_89 (by decide +kernel)
theorem dX6_init_31 : decode cX6_init 31 = .ok (.invokespecial 27, 3) := dk_183 (a := 0) (b := 27) (by decide +kernel) rfl
theorem dX6_init_34 : decode cX6_init 34 = .ok (.putfield 28, 3) := dk_181 (a := 0) (b := 28) (by decide +kernel) rfl
theorem dX6_init_37 : decode cX6_init 37 = .ok (.aload_n 0, 1) := dk_42 (by decide +kernel)
theorem dX6_init_38 : decode cX6_init 38 = .ok (.new 32, 3) := dk_187 (a := 0) (b := 32) (by decide +kernel) rfl
theorem dX6_init_41 : decode cX6_init 41 = .ok (.dup, 1) := dk_89 (by decide +kernel)
theorem dX6_init_42 : decode cX6_init 42 = .ok (.invokespecial 34, 3) := dk_183 (a := 0) (b := 34) (by decide +kernel) rfl
theorem dX6_init_45 : decode cX6_init 45 = .ok (.putfield 35, 3) := dk_181 (a := 0) (b := 35) (by decide +kernel) rfl
theorem dX6_init_48 : decode cX6_init 48 = .ok (.aload_n 0, 1) := dk_42 (by decide +kernel)
theorem dX6_init_49 : decode cX6_init 49 = .ok (.bipush 16, 2) := dk_16 (a := 16) (by decide +kernel) (by decide +kernel)
theorem dX6_init_51 : decode cX6_init 51 = .ok (.newarray .int, 2) := dk_188_10 (by decide +kernel)
theorem dX6_init_53 : decode cX6_init 53 = .ok (.putfield 39, 3) := dk_181 (a := 0) (b := 39) (by decide +kernel) rfl
theorem dX6_init_56 : decode cX6_init 56 = .ok (.aload_n 0, 1) := dk_42 (by decide +kernel)
theorem dX6_init_57 : decode cX6_init 57 = .ok (.bipush 16, 2) := dk_16 (a := 16) (by decide +kernel) (by decide +kernel)
theorem dX6_init_59 : decode cX6_init 59 = .ok (.newarray .int, 2) := dk_188_10 (by decide +kernel)
theorem dX6_init_61 : decode cX6_init 61 = .ok (.putfield 43, 3) := dk_181 (a := 0) (b := 43) (by decide +kernel) rfl
theorem dX6_init_64 : decode cX6_init 64 = .ok (.return_, 1) := dk_177 (by decide +kernel)
theorem dX6_begin_0 : decode cX6_begin 0 = .ok (.aload_n 0, 1) := dk_42 (by decide +kernel)
theorem dX6_begin_1 : decode cX6_begin 1 = .ok (.getfield 12, 3) := dk_180 (a := 0) (b := 12) (by decide +kernel) rfl
theorem dX6_begin_4 : decode cX6_begin 4 = .ok (.aload_n 1, 1) := dk_43 (by decide +kernel)
theorem dX6_begin_5 : decode cX6_begin 5 = .ok (.invokevirtual 46, 3) := dk_182 (a := 0) (b := 46) (by decide +kernel) rfl
theorem dX6_begin_8 : decode cX6_begin 8 = .ok (.aload_n 0, 1) := dk_42 (by decide +kernel)
theorem dX6_begin_9 : decode cX6_begin 9 = .ok (.getfield 21, 3) := dk_180 (a := 0) (b := 21) (by decide +kernel) rfl
theorem dX6_begin_12 : decode cX6_begin 12 = .ok (.aload_n 2, 1) := dk_44 (by decide +kernel)
theorem dX6_begin_13 : decode cX6_begin 13 = .ok (.invokevirtual 50, 3) := dk_182 (a := 0) (b := 50) (by decide +kernel) rfl
theorem dX6_begin_16 : decode cX6_begin 16 = .ok (.aload_n 0, 1) := dk_42 (by decide +kernel)
theorem dX6_begin_17 : decode cX6_begin 17 = .ok (.getfield 28, 3) := dk_180 (a := 0) (b := 28) (by decide +kernel) rfl
theorem dX6_begin_20 : decode cX6_begin 20 = .ok (.invokevirtual 53, 3) := dk_182 (a := 0) (b := 53) (by decide +kernel) rfl
theorem dX6_begin_23 : decode cX6_begin 23 = .ok (.aload_n 0, 1) := dk_42 (by decide +kernel)
theorem dX6_begin_24 : decode cX6_begin 24 = .ok (.getfield 35, 3) := dk_180 (a := 0) (b := 35) (by decide +kernel) rfl
theorem dX6_begin_27 : decode cX6_begin 27 = .ok (.iconst 0, 1) := dk_3 (by decide +kernel)
theorem dX6_begin_28 : decode cX6_begin 28 = .ok (.putfield 56, 3) := dk_181 (a := 0) (b := 56) (by decide +kernel) rfl
theorem dX6_begin_31 : decode cX6_begin 31 = .ok (.aload_n 0, 1) := dk_42 (by decide +kernel)
theorem dX6_begin_32 : decode cX6_begin 32 = .ok (.getfield 12, 3) := dk_180 (a := 0) (b := 12) (by decide +kernel) rfl
theorem dX6_begin_35 : decode cX6_begin 35 = .ok (.getfield 60, 3) := dk_180 (a := 0) (b := 60) (by decide +kernel) rfl
theorem dX6_begin_38 : decode cX6_begin 38 = .ok (.iconst 0, 1) := dk_3 (by decide +kernel)
theorem dX6_begin_39 : decode cX6_begin 39 = .ok (.aload_n 0, 1) := dk_42 (by decide +kernel)
theorem dX6_begin_40 : decode cX6_begin 40 = .ok (.getfield 39, 3) := dk_180 (a := 0) (b := 39) (by decide +kernel) rfl
theorem dX6_begin_43 : decode cX6_begin 43 = .ok (.iconst 0, 1) := dk_3 (by decide +kernel)
theorem dX6_begin_44 : decode cX6_begin 44 = .ok (.bipush 16, 2) := dk_16 (a := 16) (by decide +kernel) (by decide +kernel)
theorem dX6_begin_46 : decode cX6_begin 46 = .ok (.invokestatic 63, 3) := dk_184 (a := 0) (b := 63) (by decide +kernel) rfl
theorem dX6_begin_49 : decode cX6_begin 49 = .ok (.aload_n 0, 1) := dk_42 (by decide +kernel)
theorem dX6_begin_50 : decode cX6_begin 50 = .ok (.iconst 0, 1) := dk_3 (by decide +kernel)
theorem dX6_begin_51 : decode cX6_begin 51 = .ok (.putfield 69, 3) := dk_181 (a := 0) (b := 69) (by decide +kernel) rfl
theorem dX6_begin_54 : decode cX6_begin 54 = .ok (.aload_n 0, 1) := dk_42 (by decide +kernel)
theorem dX6_begin_55 : decode cX6_begin 55 = .ok (.iconst 0, 1) := dk_3 (by decide +kernel)
theorem dX6_begin_56 : decode cX6_begin 56 = .ok (.putfield 72, 3) := dk_181 (a := 0) (b := 72) (by decide +kernel) rfl
theorem dX6_begin_59 : decode cX6_begin 59 = .ok (.return_, 1) := dk_177 (by decide +kernel)
theorem dX6_copy_0 : decode cX6_copy 0 = .ok (.aload_n 0, 1) := dk_42 (by decide +kernel)
theorem dX6_copy_1 : decode cX6_copy 1 = .ok (.getfield 12, 3) := dk_180 (a := 0) (b := 12) (by decide +kernel) rfl
theorem dX6_copy_4 : decode cX6_copy 4 = .ok (.aload_n 1, 1) := dk_43 (by decide +kernel)
theorem dX6_copy_5 : decode cX6_copy 5 = .ok (.getfield 12, 3) := dk_180 (a := 0) (b := 12) (by decide +kernel) rfl
theorem dX6_copy_8 : decode cX6_copy 8 = .ok (.invokevirtual 46, 3) := dk_182 (a := 0) (b := 46) (by decide +kernel) rfl
theorem dX6_copy_11 : decode cX6_copy 11 = .ok (.aload_n 0, 1) := dk_42 (by decide +kernel)
theorem dX6_copy_12 : decode cX6_copy 12 = .ok (.getfield 21, 3) := dk_180 (a := 0) (b := 21) (by decide +kernel) rfl
theorem dX6_copy_15 : decode cX6_copy 15 = .ok (.aload_n 1, 1) := dk_43 (by decide +kernel)
theorem dX6_copy_16 : decode cX6_copy 16 = .ok (.getfield 21, 3) := dk_180 (a := 0) (b := 21) (by decide +kernel) rfl
theorem dX6_copy_19 : decode cX6_copy 19 = .ok (.invokevirtual 50, 3) := dk_182 (a := 0) (b := 50) (by decide +kernel) rfl
theorem dX6_copy_22 : decode cX6_copy 22 = .ok (.aload_n 0, 1) := dk_42 (by decide +kernel)
theorem dX6_copy_23 : decode cX6_copy 23 = .ok (.getfield 28, 3) := dk_180 (a := 0) (b := 28) (by decide +kernel) rfl
theorem dX6_copy_26 : decode cX6_copy 26 = .ok (.aload_n 1, 1) := dk_43 (by decide +kernel)
theorem dX6_copy_27 : decode cX6_copy 27 = .ok (.getfield 28, 3) := dk_180 (a := 0) (b := 28) (by decide +kernel) rfl
theorem dX6_copy_30 : decode cX6_copy 30 = .ok (.invokevirtual 75, 3) := dk_182 (a := 0) (b := 75) (by decide +kernel) rfl
theorem dX6_copy_33 : decode cX6_copy 33 = .ok (.aload_n 0, 1) := dk_42 (by decide +kernel)
theorem dX6_copy_34 : decode cX6_copy 34 = .ok (.getfield 35, 3) := dk_180 (a := 0) (b := 35) (by decide +kernel) rfl
theorem dX6_copy_37 : decode cX6_copy 37 = .ok (.aload_n 1, 1) := dk_43 (by decide +kernel)
theorem dX6_copy_38 : decode cX6_copy 38 = .ok (.getfield 35, 3) := dk_180 (a := 0) (b := 35) (by decide +kernel) rfl
theorem dX6_copy_41 : decode cX6_copy 41 = .ok (.invokevirtual 78, 3) := dk_182 (a := 0) (b := 78) (by decide +kernel) rfl
theorem dX6_copy_44 : decode cX6_copy 44 = .ok (.aload_n 1, 1) := dk_43 (by decide +kernel)
theorem dX6_copy_45 : decode cX6_copy 45 = .ok (.getfield 39, 3) := dk_180 (a := 0) (b := 39) (by decide +kernel) rfl
theorem dX6_copy_48 : decode cX6_copy 48 = .ok (.iconst 0, 1) := dk_3 (by decide +kernel)
theorem dX6_copy_49 : decode cX6_copy 49 = .ok (.aload_n 0, 1) := dk_42 (by decide +kernel)
theorem dX6_copy_50 : decode cX6_copy 50 = .ok (.getfield 39, 3) := dk_180 (a := 0) (b := 39) (by decide +kernel) rfl
theorem dX6_copy_53 : decode cX6_copy 53 = .ok (.iconst 0, 1) := dk_3 (by decide +kernel)
theorem dX6_copy_54 : decode cX6_copy 54 = .ok (.bipush 16, 2) := dk_16 (a := 16) (by decide +kernel) (by decide +kernel)
theorem dX6_copy_56 : decode cX6_copy 56 = .ok (.invokestatic 63, 3) := dk_184 (a := 0) (b := 63) (by decide +kernel) rfl
theorem dX6_copy_59 : decode cX6_copy 59 = .ok (.aload_n 0, 1) := dk_42 (by decide +kernel)
theorem dX6_copy_60 : decode cX6_copy 60 = .ok (.aload_n 1, 1) := dk_43 (by decide +kernel)
theorem dX6_copy_61 : decode cX6_copy 61 = .ok (.getfield 69, 3) := dk_180 (a := 0) (b := 69) (by decide +kernel) rfl
theorem dX6_copy_64 : decode cX6_copy 64 = .ok (.putfield 69, 3) := dk_181 (a := 0) (b := 69) (by decide +kernel) rfl
theorem dX6_copy_67 : decode cX6_copy 67 = .ok (.aload_n 0, 1) := dk_42 (by decide +kernel)
theorem dX6_copy_68 : decode cX6_copy 68 = .ok (.aload_n 1, 1) := dk_43 (by decide +kernel)
theorem dX6_copy_69 : decode cX6_copy 69 = .ok (.getfield 72, 3) := dk_180 (a := 0) (b := 72) (by decide +kernel) rfl
theorem dX6_copy_72 : decode cX6_copy 72 = .ok (.putfield 72, 3) := dk_181 (a := 0) (b := 72) (by decide +kernel) rfl
theorem dX6_copy_75 : decode cX6_copy 75 = .ok (.return_, 1) := dk_177 (by decide +kernel)
theorem dX6_knew_0 : decode cX6_knew 0 = .ok (.aload_n 0, 1) := dk_42 (by decide +kernel)
theorem dX6_knew_1 : decode cX6_knew 1 = .ok (.getfield 39, 3) := dk_180 (a := 0) (b := 39) (by decide +kernel) rfl
theorem dX6_knew_4 : decode cX6_knew 4 = .ok (.iload_n 1, 1) := dk_27 (by decide +kernel)
theorem dX6_knew_5 : decode cX6_knew 5 = .ok (.iaload, 1) := dk_46 (by decide +kernel)
theorem dX6_knew_6 : decode cX6_knew 6 = .ok (.iload_n 2, 1) := dk_28 (by decide +kernel)
theorem dX6_knew_7 : decode cX6_knew 7 = .ok (.ishr, 1) := dk_122 (by decide +kernel)
theorem dX6_knew_8 : decode cX6_knew 8 = .ok (.iconst 1, 1) := dk_4 (by decide +kernel)
theorem dX6_knew_9 : decode cX6_knew 9 = .ok (.iand, 1) := dk_126 (by decide +kernel)
theorem dX6_knew_10 : decode cX6_knew 10 = .ok (.ireturn, 1) := dk_172 (by decide +kernel)
theorem dX6_acquaint_0 : decode cX6_acquaint 0 = .ok (.aload_n 0, 1) := dk_42 (by decide +kernel)
theorem dX6_acquaint_1 : decode cX6_acquaint 1 = .ok (.iload_n 1, 1) := dk_27 (by decide +kernel)
theorem dX6_acquaint_2 : decode cX6_acquaint 2 = .ok (.dup2, 1) := dk_92 (by decide +kernel)
theorem dX6_acquaint_3 : decode cX6_acquaint 3 = .ok (.iaload, 1) := dk_46 (by decide +kernel)
theorem dX6_acquaint_4 : decode cX6_acquaint 4 = .ok (.iconst 1, 1) := dk_4 (by decide +kernel)
theorem dX6_acquaint_5 : decode cX6_acquaint 5 = .ok (.iload_n 2, 1) := dk_28 (by decide +kernel)
theorem dX6_acquaint_6 : decode cX6_acquaint 6 = .ok (.ishl, 1) := dk_120 (by decide +kernel)
theorem dX6_acquaint_7 : decode cX6_acquaint 7 = .ok (.ior, 1) := dk_128 (by decide +kernel)
theorem dX6_acquaint_8 : decode cX6_acquaint 8 = .ok (.iastore, 1) := dk_79 (by decide +kernel)
theorem dX6_acquaint_9 : decode cX6_acquaint 9 = .ok (.aload_n 0, 1) := dk_42 (by decide +kernel)
theorem dX6_acquaint_10 : decode cX6_acquaint 10 = .ok (.iload_n 2, 1) := dk_28 (by decide +kernel)
theorem dX6_acquaint_11 : decode cX6_acquaint 11 = .ok (.dup2, 1) := dk_92 (by decide +kernel)
theorem dX6_acquaint_12 : decode cX6_acquaint 12 = .ok (.iaload, 1) := dk_46 (by decide +kernel)
theorem dX6_acquaint_13 : decode cX6_acquaint 13 = .ok (.iconst 1, 1) := dk_4 (by decide +kernel)
theorem dX6_acquaint_14 : decode cX6_acquaint 14 = .ok (.iload_n 1, 1) := dk_27 (by decide +kernel)
theorem dX6_acquaint_15 : decode cX6_acquaint 15 = .ok (.ishl, 1) := dk_120 (by decide +kernel)
theorem dX6_acquaint_16 : decode cX6_acquaint 16 = .ok (.ior, 1) := dk_128 (by decide +kernel)
theorem dX6_acquaint_17 : decode cX6_acquaint 17 = .ok (.iastore, 1) := dk_79 (by decide +kernel)
theorem dX6_acquaint_18 : decode cX6_acquaint 18 = .ok (.return_, 1) := dk_177 (by decide +kernel)
theorem dX6_barrier_0 : decode cX6_barrier 0 = .ok (.aload_n 0, 1) := dk_42 (by decide +kernel)
theorem dX6_barrier_1 : decode cX6_barrier 1 = .ok (.getfield 12, 3) := dk_180 (a := 0) (b := 12) (by decide +kernel) rfl
theorem dX6_barrier_4 : decode cX6_barrier 4 = .ok (.iload_n 1, 1) := dk_27 (by decide +kernel)
theorem dX6_barrier_5 : decode cX6_barrier 5 = .ok (.aload_n 0, 1) := dk_42 (by decide +kernel)
theorem dX6_barrier_6 : decode cX6_barrier 6 = .ok (.getfield 69, 3) := dk_180 (a := 0) (b := 69) (by decide +kernel) rfl
theorem dX6_barrier_9 : decode cX6_barrier 9 = .ok (.invokevirtual 81, 3) := dk_182 (a := 0) (b := 81) (by decide +kernel) rfl
theorem dX6_barrier_12 : decode cX6_barrier 12 = .ok (.ifCond .eq 27, 3) := dk_153 (a := 0) (b := 27) (by decide +kernel) (by decide +kernel)
theorem dX6_barrier_15 : decode cX6_barrier 15 = .ok (.aload_n 0, 1) := dk_42 (by decide +kernel)
theorem dX6_barrier_16 : decode cX6_barrier 16 = .ok (.getfield 12, 3) := dk_180 (a := 0) (b := 12) (by decide +kernel) rfl
theorem dX6_barrier_19 : decode cX6_barrier 19 = .ok (.iload_n 2, 1) := dk_28 (by decide +kernel)
theorem dX6_barrier_20 : decode cX6_barrier 20 = .ok (.aload_n 0, 1) := dk_42 (by decide +kernel)
theorem dX6_barrier_21 : decode cX6_barrier 21 = .ok (.getfield 69, 3) := dk_180 (a := 0) (b := 69) (by decide +kernel) rfl
theorem dX6_barrier_24 : decode cX6_barrier 24 = .ok (.invokevirtual 81, 3) := dk_182 (a := 0) (b := 81) (by decide +kernel) rfl
theorem dX6_barrier_27 : decode cX6_barrier 27 = .ok (.ifCond .eq 12, 3) := dk_153 (a := 0) (b := 12) (by decide +kernel) (by decide +kernel)
theorem dX6_barrier_30 : decode cX6_barrier 30 = .ok (.aload_n 0, 1) := dk_42 (by decide +kernel)
theorem dX6_barrier_31 : decode cX6_barrier 31 = .ok (.iload_n 1, 1) := dk_27 (by decide +kernel)
theorem dX6_barrier_32 : decode cX6_barrier 32 = .ok (.iload_n 2, 1) := dk_28 (by decide +kernel)
theorem dX6_barrier_33 : decode cX6_barrier 33 = .ok (.invokevirtual 85, 3) := dk_182 (a := 0) (b := 85) (by decide +kernel) rfl
theorem dX6_barrier_36 : decode cX6_barrier 36 = .ok (.ifCond .ne 5, 3) := dk_154 (a := 0) (b := 5) (by decide +kernel) (by decide +kernel)
theorem dX6_barrier_39 : decode cX6_barrier 39 = .ok (.iconst 1, 1) := dk_4 (by decide +kernel)
theorem dX6_barrier_40 : decode cX6_barrier 40 = .ok (.ireturn, 1) := dk_172 (by decide +kernel)
theorem dX6_barrier_41 : decode cX6_barrier 41 = .ok (.iload_n 3, 1) := dk_29 (by decide +kernel)
theorem dX6_barrier_42 : decode cX6_barrier 42 = .ok (.iconst 2, 1) := dk_5 (by decide +kernel)
theorem dX6_barrier_43 : decode cX6_barrier 43 = .ok (.if_icmp .ge 5, 3) := dk_162 (a := 0) (b := 5) (by decide +kernel) (by decide +kernel)
theorem dX6_barrier_46 : decode cX6_barrier 46 = .ok (.iconst 0, 1) := dk_3 (by decide +kernel)
theorem dX6_barrier_47 : decode cX6_barrier 47 = .ok (.ireturn, 1) := dk_172 (by decide +kernel)
theorem dX6_barrier_48 : decode cX6_barrier 48 = .ok (.aload_n 0, 1) := dk_42 (by decide +kernel)
theorem dX6_barrier_49 : decode cX6_barrier 49 = .ok (.getfield 69, 3) := dk_180 (a := 0) (b := 69) (by decide +kernel) rfl
theorem dX6_barrier_52 : decode cX6_barrier 52 = .ok (.bipush 7, 2) := dk_16 (a := 7) (by decide +kernel) (by decide +kernel)
theorem dX6_barrier_54 : decode cX6_barrier 54 = .ok (.irem, 1) := dk_112 (by decide +kernel)
theorem dX6_barrier_55 : decode cX6_barrier 55 = .ok (.aload_n 0, 1) := dk_42 (by decide +kernel)
theorem dX6_barrier_56 : decode cX6_barrier 56 = .ok (.getfield 12, 3) := dk_180 (a := 0) (b := 12) (by decide +kernel) rfl
theorem dX6_barrier_59 : decode cX6_barrier 59 = .ok (.getfield 88, 3) := dk_180 (a := 0) (b := 88) (by decide +kernel) rfl
theorem dX6_barrier_62 : decode cX6_barrier 62 = .ok (.iload_n 2, 1) := dk_28 (by decide +kernel)
theorem dX6_barrier_63 : decode cX6_barrier 63 = .ok (.iaload, 1) := dk_46 (by decide +kernel)
theorem dX6_barrier_64 : decode cX6_barrier 64 = .ok (.if_icmp .eq 5, 3) := dk_159 (a := 0) (b := 5) (by decide +kernel) (by decide +kernel)
theorem dX6_barrier_67 : decode cX6_barrier 67 = .ok (.iconst 2, 1) := dk_5 (by decide +kernel)
theorem dX6_barrier_68 : decode cX6_barrier 68 = .ok (.ireturn, 1) := dk_172 (by decide +kernel)
theorem dX6_barrier_69 : decode cX6_barrier 69 = .ok (.aload_n 0, 1) := dk_42 (by decide +kernel)
theorem dX6_barrier_70 : decode cX6_barrier 70 = .ok (.getfield 12, 3) := dk_180 (a := 0) (b := 12) (by decide +kernel) rfl
theorem dX6_barrier_73 : decode cX6_barrier 73 = .ok (.iload_n 1, 1) := dk_27 (by decide +kernel)
theorem dX6_barrier_74 : decode cX6_barrier 74 = .ok (.aload_n 0, 1) := dk_42 (by decide +kernel)
theorem dX6_barrier_75 : decode cX6_barrier 75 = .ok (.getfield 69, 3) := dk_180 (a := 0) (b := 69) (by decide +kernel) rfl
theorem dX6_barrier_78 : decode cX6_barrier 78 = .ok (.invokevirtual 91, 3) := dk_182 (a := 0) (b := 91) (by decide +kernel) rfl
theorem dX6_barrier_81 : decode cX6_barrier 81 = .ok (.ifCond .eq 7, 3) := dk_153 (a := 0) (b := 7) (by decide +kernel) (by decide +kernel)
theorem dX6_barrier_84 : decode cX6_barrier 84 = .ok (.iconst 3, 1) := dk_6 (by decide +kernel)
theorem dX6_barrier_85 : decode cX6_barrier 85 = .ok (.goto 4, 3) := dk_167 (a := 0) (b := 4) (by decide +kernel) (by decide +kernel)
theorem dX6_barrier_88 : decode cX6_barrier 88 = .ok (.iconst 0, 1) := dk_3 (by decide +kernel)
theorem dX6_barrier_89 : decode cX6_barrier 89 = .ok (.ireturn, 1) := dk_172 (by decide +kernel)
theorem dX6_isOpenTo_0 : decode cX6_isOpenTo 0 = .ok (.aload_n 0, 1) := dk_42 (by decide +kernel)
theorem dX6_isOpenTo_1 : decode cX6_isOpenTo 1 = .ok (.iload_n 1, 1) := dk_27 (by decide +kernel)
theorem dX6_isOpenTo_2 : decode cX6_isOpenTo 2 = .ok (.iload_n 2, 1) := dk_28 (by decide +kernel)
theorem dX6_isOpenTo_3 : decode cX6_isOpenTo 3 = .ok (.invokevirtual 94, 3) := dk_182 (a := 0) (b := 94) (by decide +kernel) rfl
theorem dX6_isOpenTo_6 : decode cX6_isOpenTo 6 = .ok (.iconst 1, 1) := dk_4 (by decide +kernel)
theorem dX6_isOpenTo_7 : decode cX6_isOpenTo 7 = .ok (.if_icmp .eq 33, 3) := dk_159 (a := 0) (b := 33) (by decide +kernel) (by decide +kernel)
theorem dX6_isOpenTo_10 : decode cX6_isOpenTo 10 = .ok (.aload_n 0, 1) := dk_42 (by decide +kernel)
theorem dX6_isOpenTo_11 : decode cX6_isOpenTo 11 = .ok (.getfield 12, 3) := dk_180 (a := 0) (b := 12) (by decide +kernel) rfl
theorem dX6_isOpenTo_14 : decode cX6_isOpenTo 14 = .ok (.iload_n 2, 1) := dk_28 (by decide +kernel)
theorem dX6_isOpenTo_15 : decode cX6_isOpenTo 15 = .ok (.aload_n 0, 1) := dk_42 (by decide +kernel)
theorem dX6_isOpenTo_16 : decode cX6_isOpenTo 16 = .ok (.getfield 69, 3) := dk_180 (a := 0) (b := 69) (by decide +kernel) rfl
theorem dX6_isOpenTo_19 : decode cX6_isOpenTo 19 = .ok (.invokevirtual 98, 3) := dk_182 (a := 0) (b := 98) (by decide +kernel) rfl
theorem dX6_isOpenTo_22 : decode cX6_isOpenTo 22 = .ok (.ifCond .eq 20, 3) := dk_153 (a := 0) (b := 20) (by decide +kernel) (by decide +kernel)
theorem dX6_isOpenTo_25 : decode cX6_isOpenTo 25 = .ok (.aload_n 0, 1) := dk_42 (by decide +kernel)
theorem dX6_isOpenTo_26 : decode cX6_isOpenTo 26 = .ok (.getfield 12, 3) := dk_180 (a := 0) (b := 12) (by decide +kernel) rfl
theorem dX6_isOpenTo_29 : decode cX6_isOpenTo 29 = .ok (.iload_n 1, 1) := dk_27 (by decide +kernel)
theorem dX6_isOpenTo_30 : decode cX6_isOpenTo 30 = .ok (.aload_n 0, 1) := dk_42 (by decide +kernel)
theorem dX6_isOpenTo_31 : decode cX6_isOpenTo 31 = .ok (.getfield 69, 3) := dk_180 (a := 0) (b := 69) (by decide +kernel) rfl
theorem dX6_isOpenTo_34 : decode cX6_isOpenTo 34 = .ok (.invokevirtual 98, 3) := dk_182 (a := 0) (b := 98) (by decide +kernel) rfl
theorem dX6_isOpenTo_37 : decode cX6_isOpenTo 37 = .ok (.ifCond .ne 5, 3) := dk_154 (a := 0) (b := 5) (by decide +kernel) (by decide +kernel)
theorem dX6_isOpenTo_40 : decode cX6_isOpenTo 40 = .ok (.iconst 1, 1) := dk_4 (by decide +kernel)
theorem dX6_isOpenTo_41 : decode cX6_isOpenTo 41 = .ok (.ireturn, 1) := dk_172 (by decide +kernel)
theorem dX6_isOpenTo_42 : decode cX6_isOpenTo 42 = .ok (.aload_n 0, 1) := dk_42 (by decide +kernel)
theorem dX6_isOpenTo_43 : decode cX6_isOpenTo 43 = .ok (.getfield 39, 3) := dk_180 (a := 0) (b := 39) (by decide +kernel) rfl
theorem dX6_isOpenTo_46 : decode cX6_isOpenTo 46 = .ok (.iload_n 1, 1) := dk_27 (by decide +kernel)
theorem dX6_isOpenTo_47 : decode cX6_isOpenTo 47 = .ok (.iaload, 1) := dk_46 (by decide +kernel)
theorem dX6_isOpenTo_48 : decode cX6_isOpenTo 48 = .ok (.aload_n 0, 1) := dk_42 (by decide +kernel)
theorem dX6_isOpenTo_49 : decode cX6_isOpenTo 49 = .ok (.getfield 39, 3) := dk_180 (a := 0) (b := 39) (by decide +kernel) rfl
theorem dX6_isOpenTo_52 : decode cX6_isOpenTo 52 = .ok (.iload_n 2, 1) := dk_28 (by decide +kernel)
theorem dX6_isOpenTo_53 : decode cX6_isOpenTo 53 = .ok (.iaload, 1) := dk_46 (by decide +kernel)
theorem dX6_isOpenTo_54 : decode cX6_isOpenTo 54 = .ok (.iand, 1) := dk_126 (by decide +kernel)
theorem dX6_isOpenTo_55 : decode cX6_isOpenTo 55 = .ok (.invokestatic 101, 3) := dk_184 (a := 0) (b := 101) (by decide +kernel) rfl
theorem dX6_isOpenTo_58 : decode cX6_isOpenTo 58 = .ok (.aload_n 0, 1) := dk_42 (by decide +kernel)
theorem dX6_isOpenTo_59 : decode cX6_isOpenTo 59 = .ok (.getfield 12, 3) := dk_180 (a := 0) (b := 12) (by decide +kernel) rfl
theorem dX6_isOpenTo_62 : decode cX6_isOpenTo 62 = .ok (.getfield 107, 3) := dk_180 (a := 0) (b := 107) (by decide +kernel) rfl
theorem dX6_isOpenTo_65 : decode cX6_isOpenTo 65 = .ok (.if_icmp .lt 7, 3) := dk_161 (a := 0) (b := 7) (by decide +kernel) (by decide +kernel)
theorem dX6_isOpenTo_68 : decode cX6_isOpenTo 68 = .ok (.iconst 1, 1) := dk_4 (by decide +kernel)
theorem dX6_isOpenTo_69 : decode cX6_isOpenTo 69 = .ok (.goto 4, 3) := dk_167 (a := 0) (b := 4) (by decide +kernel) (by decide +kernel)
theorem dX6_isOpenTo_72 : decode cX6_isOpenTo 72 = .ok (.iconst 0, 1) := dk_3 (by decide +kernel)
theorem dX6_isOpenTo_73 : decode cX6_isOpenTo 73 = .ok (.ireturn, 1) := dk_172 (by decide +kernel)
theorem dX6_act_0 : decode cX6_act 0 = .ok (.aload_n 0, 1) := dk_42 (by decide +kernel)
theorem dX6_act_1 : decode cX6_act 1 = .ok (.aload_n 0, 1) := dk_42 (by decide +kernel)
theorem dX6_act_2 : decode cX6_act 2 = .ok (.getfield 28, 3) := dk_180 (a := 0) (b := 28) (by decide +kernel) rfl
theorem dX6_act_5 : decode cX6_act 5 = .ok (.aload_n 0, 1) := dk_42 (by decide +kernel)
theorem dX6_act_6 : decode cX6_act 6 = .ok (.getfield 21, 3) := dk_180 (a := 0) (b := 21) (by decide +kernel) rfl
theorem dX6_act_9 : decode cX6_act 9 = .ok (.iload_n 1, 1) := dk_27 (by decide +kernel)
theorem dX6_act_10 : decode cX6_act 10 = .ok (.iload_n 2, 1) := dk_28 (by decide +kernel)
theorem dX6_act_11 : decode cX6_act 11 = .ok (.iload_n 3, 1) := dk_29 (by decide +kernel)
theorem dX6_act_12 : decode cX6_act 12 = .ok (.aload_n 0, 1) := dk_42 (by decide +kernel)
theorem dX6_act_13 : decode cX6_act 13 = .ok (.getfield 69, 3) := dk_180 (a := 0) (b := 69) (by decide +kernel) rfl
theorem dX6_act_16 : decode cX6_act 16 = .ok (.aload_n 0, 1) := dk_42 (by decide +kernel)
theorem dX6_act_17 : decode cX6_act 17 = .ok (.iload_n 1, 1) := dk_27 (by decide +kernel)
theorem dX6_act_18 : decode cX6_act 18 = .ok (.iload_n 2, 1) := dk_28 (by decide +kernel)
theorem dX6_act_19 : decode cX6_act 19 = .ok (.invokevirtual 94, 3) := dk_182 (a := 0) (b := 94) (by decide +kernel) rfl
theorem dX6_act_22 : decode cX6_act 22 = .ok (.invokevirtual 110, 3) := dk_182 (a := 0) (b := 110) (by decide +kernel) rfl
theorem dX6_act_25 : decode cX6_act 25 = .ok (.istore 4, 2) := dk_54 (a := 4) (by decide +kernel)
theorem dX6_act_27 : decode cX6_act 27 = .ok (.aload_n 0, 1) := dk_42 (by decide +kernel)
theorem dX6_act_28 : decode cX6_act 28 = .ok (.dup, 1) := dk_89 (by decide +kernel)
theorem dX6_act_29 : decode cX6_act 29 = .ok (.getfield 72, 3) := dk_180 (a := 0) (b := 72) (by decide +kernel) rfl
theorem dX6_act_32 : decode cX6_act 32 = .ok (.iload 4, 2) := dk_21 (a := 4) (by decide +kernel)
theorem dX6_act_34 : decode cX6_act 34 = .ok (.iadd, 1) := dk_96 (by decide +kernel)
theorem dX6_act_35 : decode cX6_act 35 = .ok (.putfield 72, 3) := dk_181 (a := 0) (b := 72) (by decide +kernel) rfl
theorem dX6_act_38 : decode cX6_act 38 = .ok (.aload_n 0, 1) := dk_42 (by decide +kernel)
theorem dX6_act_39 : decode cX6_act 39 = .ok (.getfield 35, 3) := dk_180 (a := 0) (b := 35) (by decide +kernel) rfl
theorem dX6_act_42 : decode cX6_act 42 = .ok (.iload_n 1, 1) := dk_27 (by decide +kernel)
theorem dX6_act_43 : decode cX6_act 43 = .ok (.iload_n 2, 1) := dk_28 (by decide +kernel)
theorem dX6_act_44 : decode cX6_act 44 = .ok (.iload_n 3, 1) := dk_29 (by decide +kernel)
theorem dX6_act_45 : decode cX6_act 45 = .ok (.aload_n 0, 1) := dk_42 (by decide +kernel)
theorem dX6_act_46 : decode cX6_act 46 = .ok (.getfield 69, 3) := dk_180 (a := 0) (b := 69) (by decide +kernel) rfl
theorem dX6_act_49 : decode cX6_act 49 = .ok (.invokevirtual 114, 3) := dk_182 (a := 0) (b := 114) (by decide +kernel) rfl
theorem dX6_act_52 : decode cX6_act 52 = .ok (.iload_n 3, 1) := dk_29 (by decide +kernel)
theorem dX6_act_53 : decode cX6_act 53 = .ok (.iconst 2, 1) := dk_5 (by decide +kernel)
theorem dX6_act_54 : decode cX6_act 54 = .ok (.if_icmp .lt 12, 3) := dk_161 (a := 0) (b := 12) (by decide +kernel) (by decide +kernel)
theorem dX6_act_57 : decode cX6_act 57 = .ok (.aload_n 0, 1) := dk_42 (by decide +kernel)
theorem dX6_act_58 : decode cX6_act 58 = .ok (.getfield 39, 3) := dk_180 (a := 0) (b := 39) (by decide +kernel) rfl
theorem dX6_act_61 : decode cX6_act 61 = .ok (.iload_n 1, 1) := dk_27 (by decide +kernel)
theorem dX6_act_62 : decode cX6_act 62 = .ok (.iload_n 2, 1) := dk_28 (by decide +kernel)
theorem dX6_act_63 : decode cX6_act 63 = .ok (.invokestatic 118, 3) := dk_184 (a := 0) (b := 118) (by decide +kernel) rfl
theorem dX6_act_66 : decode cX6_act 66 = .ok (.iload 4, 2) := dk_21 (a := 4) (by decide +kernel)
theorem dX6_act_68 : decode cX6_act 68 = .ok (.ireturn, 1) := dk_172 (by decide +kernel)
theorem dX6_chance_0 : decode cX6_chance 0 = .ok (.iconst 1, 1) := dk_4 (by decide +kernel)
theorem dX6_chance_1 : decode cX6_chance 1 = .ok (.aload_n 0, 1) := dk_42 (by decide +kernel)
theorem dX6_chance_2 : decode cX6_chance 2 = .ok (.iload_n 1, 1) := dk_27 (by decide +kernel)
theorem dX6_chance_3 : decode cX6_chance 3 = .ok (.iload_n 2, 1) := dk_28 (by decide +kernel)
theorem dX6_chance_4 : decode cX6_chance 4 = .ok (.invokevirtual 94, 3) := dk_182 (a := 0) (b := 94) (by decide +kernel) rfl
theorem dX6_chance_7 : decode cX6_chance 7 = .ok (.isub, 1) := dk_100 (by decide +kernel)
theorem dX6_chance_8 : decode cX6_chance 8 = .ok (.istore_n 3, 1) := dk_62 (by decide +kernel)
theorem dX6_chance_9 : decode cX6_chance 9 = .ok (.aload_n 0, 1) := dk_42 (by decide +kernel)
theorem dX6_chance_10 : decode cX6_chance 10 = .ok (.getfield 39, 3) := dk_180 (a := 0) (b := 39) (by decide +kernel) rfl
theorem dX6_chance_13 : decode cX6_chance 13 = .ok (.iload_n 1, 1) := dk_27 (by decide +kernel)
theorem dX6_chance_14 : decode cX6_chance 14 = .ok (.iload_n 2, 1) := dk_28 (by decide +kernel)
theorem dX6_chance_15 : decode cX6_chance 15 = .ok (.invokestatic 118, 3) := dk_184 (a := 0) (b := 118) (by decide +kernel) rfl
theorem dX6_chance_18 : decode cX6_chance 18 = .ok (.aload_n 0, 1) := dk_42 (by decide +kernel)
theorem dX6_chance_19 : decode cX6_chance 19 = .ok (.getfield 35, 3) := dk_180 (a := 0) (b := 35) (by decide +kernel) rfl
theorem dX6_chance_22 : decode cX6_chance 22 = .ok (.iload_n 1, 1) := dk_27 (by decide +kernel)
theorem dX6_chance_23 : decode cX6_chance 23 = .ok (.iload_n 2, 1) := dk_28 (by decide +kernel)
theorem dX6_chance_24 : decode cX6_chance 24 = .ok (.iconst 4, 1) := dk_7 (by decide +kernel)
theorem dX6_chance_25 : decode cX6_chance 25 = .ok (.aload_n 0, 1) := dk_42 (by decide +kernel)
theorem dX6_chance_26 : decode cX6_chance 26 = .ok (.getfield 69, 3) := dk_180 (a := 0) (b := 69) (by decide +kernel) rfl
theorem dX6_chance_29 : decode cX6_chance 29 = .ok (.invokevirtual 114, 3) := dk_182 (a := 0) (b := 114) (by decide +kernel) rfl
theorem dX6_chance_32 : decode cX6_chance 32 = .ok (.iload_n 3, 1) := dk_29 (by decide +kernel)
theorem dX6_chance_33 : decode cX6_chance 33 = .ok (.ireturn, 1) := dk_172 (by decide +kernel)
theorem dX6_deal_0 : decode cX6_deal 0 = .ok (.aload_n 1, 1) := dk_43 (by decide +kernel)
theorem dX6_deal_1 : decode cX6_deal 1 = .ok (.iload_n 3, 1) := dk_29 (by decide +kernel)
theorem dX6_deal_2 : decode cX6_deal 2 = .ok (.iload 4, 2) := dk_21 (a := 4) (by decide +kernel)
theorem dX6_deal_4 : decode cX6_deal 4 = .ok (.iload 5, 2) := dk_21 (a := 5) (by decide +kernel)
theorem dX6_deal_6 : decode cX6_deal 6 = .ok (.invokevirtual 122, 3) := dk_182 (a := 0) (b := 122) (by decide +kernel) rfl
theorem dX6_deal_9 : decode cX6_deal 9 = .ok (.istore 8, 2) := dk_54 (a := 8) (by decide +kernel)
theorem dX6_deal_11 : decode cX6_deal 11 = .ok (.aload_n 2, 1) := dk_44 (by decide +kernel)
theorem dX6_deal_12 : decode cX6_deal 12 = .ok (.iload 5, 2) := dk_21 (a := 5) (by decide +kernel)
theorem dX6_deal_14 : decode cX6_deal 14 = .ok (.aload_n 0, 1) := dk_42 (by decide +kernel)
theorem dX6_deal_15 : decode cX6_deal 15 = .ok (.getfield 12, 3) := dk_180 (a := 0) (b := 12) (by decide +kernel) rfl
theorem dX6_deal_18 : decode cX6_deal 18 = .ok (.getfield 126, 3) := dk_180 (a := 0) (b := 126) (by decide +kernel) rfl
theorem dX6_deal_21 : decode cX6_deal 21 = .ok (.iload_n 3, 1) := dk_29 (by decide +kernel)
theorem dX6_deal_22 : decode cX6_deal 22 = .ok (.iaload, 1) := dk_46 (by decide +kernel)
theorem dX6_deal_23 : decode cX6_deal 23 = .ok (.aload_n 0, 1) := dk_42 (by decide +kernel)
theorem dX6_deal_24 : decode cX6_deal 24 = .ok (.getfield 12, 3) := dk_180 (a := 0) (b := 12) (by decide +kernel) rfl
theorem dX6_deal_27 : decode cX6_deal 27 = .ok (.getfield 126, 3) := dk_180 (a := 0) (b := 126) (by decide +kernel) rfl
theorem dX6_deal_30 : decode cX6_deal 30 = .ok (.iload 4, 2) := dk_21 (a := 4) (by decide +kernel)
theorem dX6_deal_32 : decode cX6_deal 32 = .ok (.iaload, 1) := dk_46 (by decide +kernel)
theorem dX6_deal_33 : decode cX6_deal 33 = .ok (.aload_n 1, 1) := dk_43 (by decide +kernel)
theorem dX6_deal_34 : decode cX6_deal 34 = .ok (.getfield 129, 3) := dk_180 (a := 0) (b := 129) (by decide +kernel) rfl
theorem dX6_deal_37 : decode cX6_deal 37 = .ok (.iload 4, 2) := dk_21 (a := 4) (by decide +kernel)
theorem dX6_deal_39 : decode cX6_deal 39 = .ok (.iaload, 1) := dk_46 (by decide +kernel)
theorem dX6_deal_40 : decode cX6_deal 40 = .ok (.iload 6, 2) := dk_21 (a := 6) (by decide +kernel)
theorem dX6_deal_42 : decode cX6_deal 42 = .ok (.iload 7, 2) := dk_21 (a := 7) (by decide +kernel)
theorem dX6_deal_44 : decode cX6_deal 44 = .ok (.invokevirtual 132, 3) := dk_182 (a := 0) (b := 132) (by decide +kernel) rfl
theorem dX6_deal_47 : decode cX6_deal 47 = .ok (.istore 9, 2) := dk_54 (a := 9) (by decide +kernel)
theorem dX6_deal_49 : decode cX6_deal 49 = .ok (.iload 9, 2) := dk_21 (a := 9) (by decide +kernel)
theorem dX6_deal_51 : decode cX6_deal 51 = .ok (.ifCond .lt 52, 3) := dk_155 (a := 0) (b := 52) (by decide +kernel) (by decide +kernel)
theorem dX6_deal_54 : decode cX6_deal 54 = .ok (.aload_n 1, 1) := dk_43 (by decide +kernel)
theorem dX6_deal_55 : decode cX6_deal 55 = .ok (.iload 4, 2) := dk_21 (a := 4) (by decide +kernel)
theorem dX6_deal_57 : decode cX6_deal 57 = .ok (.iload_n 3, 1) := dk_29 (by decide +kernel)
theorem dX6_deal_58 : decode cX6_deal 58 = .ok (.aload_n 2, 1) := dk_44 (by decide +kernel)
theorem dX6_deal_59 : decode cX6_deal 59 = .ok (.getfield 136, 3) := dk_180 (a := 0) (b := 136) (by decide +kernel) rfl
theorem dX6_deal_62 : decode cX6_deal 62 = .ok (.iload 9, 2) := dk_21 (a := 9) (by decide +kernel)
theorem dX6_deal_64 : decode cX6_deal 64 = .ok (.iaload, 1) := dk_46 (by decide +kernel)
theorem dX6_deal_65 : decode cX6_deal 65 = .ok (.invokestatic 139, 3) := dk_184 (a := 0) (b := 139) (by decide +kernel) rfl
theorem dX6_deal_68 : decode cX6_deal 68 = .ok (.ifCond .ne 35, 3) := dk_154 (a := 0) (b := 35) (by decide +kernel) (by decide +kernel)
theorem dX6_deal_71 : decode cX6_deal 71 = .ok (.aload_n 1, 1) := dk_43 (by decide +kernel)
theorem dX6_deal_72 : decode cX6_deal 72 = .ok (.iload 4, 2) := dk_21 (a := 4) (by decide +kernel)
theorem dX6_deal_74 : decode cX6_deal 74 = .ok (.iload_n 3, 1) := dk_29 (by decide +kernel)
theorem dX6_deal_75 : decode cX6_deal 75 = .ok (.aload_n 2, 1) := dk_44 (by decide +kernel)
theorem dX6_deal_76 : decode cX6_deal 76 = .ok (.getfield 136, 3) := dk_180 (a := 0) (b := 136) (by decide +kernel) rfl
theorem dX6_deal_79 : decode cX6_deal 79 = .ok (.iload 9, 2) := dk_21 (a := 9) (by decide +kernel)
theorem dX6_deal_81 : decode cX6_deal 81 = .ok (.iaload, 1) := dk_46 (by decide +kernel)
theorem dX6_deal_82 : decode cX6_deal 82 = .ok (.sipush 399, 3) := dk_17 (a := 1) (b := 143) (by decide +kernel) (by decide +kernel)
theorem dX6_deal_85 : decode cX6_deal 85 = .ok (.iload 6, 2) := dk_21 (a := 6) (by decide +kernel)
theorem dX6_deal_87 : decode cX6_deal 87 = .ok (.aload_n 2, 1) := dk_44 (by decide +kernel)
theorem dX6_deal_88 : decode cX6_deal 88 = .ok (.getfield 143, 3) := dk_180 (a := 0) (b := 143) (by decide +kernel) rfl
theorem dX6_deal_91 : decode cX6_deal 91 = .ok (.iload 9, 2) := dk_21 (a := 9) (by decide +kernel)
theorem dX6_deal_93 : decode cX6_deal 93 = .ok (.iaload, 1) := dk_46 (by decide +kernel)
theorem dX6_deal_94 : decode cX6_deal 94 = .ok (.iadd, 1) := dk_96 (by decide +kernel)
theorem dX6_deal_95 : decode cX6_deal 95 = .ok (.invokestatic 146, 3) := dk_184 (a := 0) (b := 146) (by decide +kernel) rfl
theorem dX6_deal_98 : decode cX6_deal 98 = .ok (.iload 6, 2) := dk_21 (a := 6) (by decide +kernel)
theorem dX6_deal_100 : decode cX6_deal 100 = .ok (.invokevirtual 151, 3) := dk_182 (a := 0) (b := 151) (by decide +kernel) rfl
theorem dX6_deal_103 : decode cX6_deal 103 = .ok (.iload 8, 2) := dk_21 (a := 8) (by decide +kernel)
theorem dX6_deal_105 : decode cX6_deal 105 = .ok (.ireturn, 1) := dk_172 (by decide +kernel)
theorem dX6_isOwed_0 : decode cX6_isOwed 0 = .ok (.aload_n 0, 1) := dk_42 (by decide +kernel)
theorem dX6_isOwed_1 : decode cX6_isOwed 1 = .ok (.iload_n 1, 1) := dk_27 (by decide +kernel)
theorem dX6_isOwed_2 : decode cX6_isOwed 2 = .ok (.iload_n 2, 1) := dk_28 (by decide +kernel)
theorem dX6_isOwed_3 : decode cX6_isOwed 3 = .ok (.invokevirtual 154, 3) := dk_182 (a := 0) (b := 154) (by decide +kernel) rfl
theorem dX6_isOwed_6 : decode cX6_isOwed 6 = .ok (.iload_n 3, 1) := dk_29 (by decide +kernel)
theorem dX6_isOwed_7 : decode cX6_isOwed 7 = .ok (.ishr, 1) := dk_122 (by decide +kernel)
theorem dX6_isOwed_8 : decode cX6_isOwed 8 = .ok (.iconst 1, 1) := dk_4 (by decide +kernel)
theorem dX6_isOwed_9 : decode cX6_isOwed 9 = .ok (.iand, 1) := dk_126 (by decide +kernel)
theorem dX6_isOwed_10 : decode cX6_isOwed 10 = .ok (.iconst 1, 1) := dk_4 (by decide +kernel)
theorem dX6_isOwed_11 : decode cX6_isOwed 11 = .ok (.if_icmp .ne 7, 3) := dk_160 (a := 0) (b := 7) (by decide +kernel) (by decide +kernel)
theorem dX6_isOwed_14 : decode cX6_isOwed 14 = .ok (.iconst 1, 1) := dk_4 (by decide +kernel)
theorem dX6_isOwed_15 : decode cX6_isOwed 15 = .ok (.goto 4, 3) := dk_167 (a := 0) (b := 4) (by decide +kernel) (by decide +kernel)
theorem dX6_isOwed_18 : decode cX6_isOwed 18 = .ok (.iconst 0, 1) := dk_3 (by decide +kernel)
theorem dX6_isOwed_19 : decode cX6_isOwed 19 = .ok (.ireturn, 1) := dk_172 (by decide +kernel)
theorem dX6_wouldMake_0 : decode cX6_wouldMake 0 = .ok (.aload_n 0, 1) := dk_42 (by decide +kernel)
theorem dX6_wouldMake_1 : decode cX6_wouldMake 1 = .ok (.getfield 21, 3) := dk_180 (a := 0) (b := 21) (by decide +kernel) rfl
theorem dX6_wouldMake_4 : decode cX6_wouldMake 4 = .ok (.iload_n 3, 1) := dk_29 (by decide +kernel)
theorem dX6_wouldMake_5 : decode cX6_wouldMake 5 = .ok (.aload_n 0, 1) := dk_42 (by decide +kernel)
theorem dX6_wouldMake_6 : decode cX6_wouldMake 6 = .ok (.getfield 12, 3) := dk_180 (a := 0) (b := 12) (by decide +kernel) rfl
theorem dX6_wouldMake_9 : decode cX6_wouldMake 9 = .ok (.getfield 126, 3) := dk_180 (a := 0) (b := 126) (by decide +kernel) rfl
theorem dX6_wouldMake_12 : decode cX6_wouldMake 12 = .ok (.iload_n 1, 1) := dk_27 (by decide +kernel)
theorem dX6_wouldMake_13 : decode cX6_wouldMake 13 = .ok (.iaload, 1) := dk_46 (by decide +kernel)
theorem dX6_wouldMake_14 : decode cX6_wouldMake 14 = .ok (.aload_n 0, 1) := dk_42 (by decide +kernel)
theorem dX6_wouldMake_15 : decode cX6_wouldMake 15 = .ok (.getfield 12, 3) := dk_180 (a := 0) (b := 12) (by decide +kernel) rfl
theorem dX6_wouldMake_18 : decode cX6_wouldMake 18 = .ok (.getfield 126, 3) := dk_180 (a := 0) (b := 126) (by decide +kernel) rfl
theorem dX6_wouldMake_21 : decode cX6_wouldMake 21 = .ok (.iload_n 2, 1) := dk_28 (by decide +kernel)
theorem dX6_wouldMake_22 : decode cX6_wouldMake 22 = .ok (.iaload, 1) := dk_46 (by decide +kernel)
theorem dX6_wouldMake_23 : decode cX6_wouldMake 23 = .ok (.aload_n 0, 1) := dk_42 (by decide +kernel)
theorem dX6_wouldMake_24 : decode cX6_wouldMake 24 = .ok (.getfield 28, 3) := dk_180 (a := 0) (b := 28) (by decide +kernel) rfl
theorem dX6_wouldMake_27 : decode cX6_wouldMake 27 = .ok (.getfield 129, 3) := dk_180 (a := 0) (b := 129) (by decide +kernel) rfl
theorem dX6_wouldMake_30 : decode cX6_wouldMake 30 = .ok (.iload_n 2, 1) := dk_28 (by decide +kernel)
theorem dX6_wouldMake_31 : decode cX6_wouldMake 31 = .ok (.iaload, 1) := dk_46 (by decide +kernel)
theorem dX6_wouldMake_32 : decode cX6_wouldMake 32 = .ok (.aload_n 0, 1) := dk_42 (by decide +kernel)
theorem dX6_wouldMake_33 : decode cX6_wouldMake 33 = .ok (.getfield 69, 3) := dk_180 (a := 0) (b := 69) (by decide +kernel) rfl
theorem dX6_wouldMake_36 : decode cX6_wouldMake 36 = .ok (.aload_n 0, 1) := dk_42 (by decide +kernel)
theorem dX6_wouldMake_37 : decode cX6_wouldMake 37 = .ok (.iload_n 1, 1) := dk_27 (by decide +kernel)
theorem dX6_wouldMake_38 : decode cX6_wouldMake 38 = .ok (.iload_n 2, 1) := dk_28 (by decide +kernel)
theorem dX6_wouldMake_39 : decode cX6_wouldMake 39 = .ok (.invokevirtual 94, 3) := dk_182 (a := 0) (b := 94) (by decide +kernel) rfl
theorem dX6_wouldMake_42 : decode cX6_wouldMake 42 = .ok (.invokevirtual 132, 3) := dk_182 (a := 0) (b := 132) (by decide +kernel) rfl
theorem dX6_wouldMake_45 : decode cX6_wouldMake 45 = .ok (.istore 4, 2) := dk_54 (a := 4) (by decide +kernel)
theorem dX6_wouldMake_47 : decode cX6_wouldMake 47 = .ok (.iload 4, 2) := dk_21 (a := 4) (by decide +kernel)
theorem dX6_wouldMake_49 : decode cX6_wouldMake 49 = .ok (.ifCond .lt 25, 3) := dk_155 (a := 0) (b := 25) (by decide +kernel) (by decide +kernel)
theorem dX6_wouldMake_52 : decode cX6_wouldMake 52 = .ok (.aload_n 0, 1) := dk_42 (by decide +kernel)
theorem dX6_wouldMake_53 : decode cX6_wouldMake 53 = .ok (.getfield 28, 3) := dk_180 (a := 0) (b := 28) (by decide +kernel) rfl
theorem dX6_wouldMake_56 : decode cX6_wouldMake 56 = .ok (.iload_n 2, 1) := dk_28 (by decide +kernel)
theorem dX6_wouldMake_57 : decode cX6_wouldMake 57 = .ok (.iload_n 1, 1) := dk_27 (by decide +kernel)
theorem dX6_wouldMake_58 : decode cX6_wouldMake 58 = .ok (.aload_n 0, 1) := dk_42 (by decide +kernel)
theorem dX6_wouldMake_59 : decode cX6_wouldMake 59 = .ok (.getfield 21, 3) := dk_180 (a := 0) (b := 21) (by decide +kernel) rfl
theorem dX6_wouldMake_62 : decode cX6_wouldMake 62 = .ok (.getfield 136, 3) := dk_180 (a := 0) (b := 136) (by decide +kernel) rfl
theorem dX6_wouldMake_65 : decode cX6_wouldMake 65 = .ok (.iload 4, 2) := dk_21 (a := 4) (by decide +kernel)
theorem dX6_wouldMake_67 : decode cX6_wouldMake 67 = .ok (.iaload, 1) := dk_46 (by decide +kernel)
theorem dX6_wouldMake_68 : decode cX6_wouldMake 68 = .ok (.invokestatic 139, 3) := dk_184 (a := 0) (b := 139) (by decide +kernel) rfl
theorem dX6_wouldMake_71 : decode cX6_wouldMake 71 = .ok (.ifCond .eq 5, 3) := dk_153 (a := 0) (b := 5) (by decide +kernel) (by decide +kernel)
theorem dX6_wouldMake_74 : decode cX6_wouldMake 74 = .ok (.iconst (-1), 1) := dk_2 (by decide +kernel)
theorem dX6_wouldMake_75 : decode cX6_wouldMake 75 = .ok (.ireturn, 1) := dk_172 (by decide +kernel)
theorem dX6_wouldMake_76 : decode cX6_wouldMake 76 = .ok (.aload_n 0, 1) := dk_42 (by decide +kernel)
theorem dX6_wouldMake_77 : decode cX6_wouldMake 77 = .ok (.getfield 21, 3) := dk_180 (a := 0) (b := 21) (by decide +kernel) rfl
theorem dX6_wouldMake_80 : decode cX6_wouldMake 80 = .ok (.getfield 136, 3) := dk_180 (a := 0) (b := 136) (by decide +kernel) rfl
theorem dX6_wouldMake_83 : decode cX6_wouldMake 83 = .ok (.iload 4, 2) := dk_21 (a := 4) (by decide +kernel)
theorem dX6_wouldMake_85 : decode cX6_wouldMake 85 = .ok (.iaload, 1) := dk_46 (by decide +kernel)
theorem dX6_wouldMake_86 : decode cX6_wouldMake 86 = .ok (.ireturn, 1) := dk_172 (by decide +kernel)
theorem dX6_replay_0 : decode cX6_replay 0 = .ok (.aload_n 2, 1) := dk_44 (by decide +kernel)
theorem dX6_replay_1 : decode cX6_replay 1 = .ok (.invokevirtual 53, 3) := dk_182 (a := 0) (b := 53) (by decide +kernel) rfl
theorem dX6_replay_4 : decode cX6_replay 4 = .ok (.aload_n 0, 1) := dk_42 (by decide +kernel)
theorem dX6_replay_5 : decode cX6_replay 5 = .ok (.getfield 12, 3) := dk_180 (a := 0) (b := 12) (by decide +kernel) rfl
theorem dX6_replay_8 : decode cX6_replay 8 = .ok (.getfield 60, 3) := dk_180 (a := 0) (b := 60) (by decide +kernel) rfl
theorem dX6_replay_11 : decode cX6_replay 11 = .ok (.iconst 0, 1) := dk_3 (by decide +kernel)
theorem dX6_replay_12 : decode cX6_replay 12 = .ok (.aload_n 3, 1) := dk_45 (by decide +kernel)
theorem dX6_replay_13 : decode cX6_replay 13 = .ok (.iconst 0, 1) := dk_3 (by decide +kernel)
theorem dX6_replay_14 : decode cX6_replay 14 = .ok (.bipush 16, 2) := dk_16 (a := 16) (by decide +kernel) (by decide +kernel)
theorem dX6_replay_16 : decode cX6_replay 16 = .ok (.invokestatic 63, 3) := dk_184 (a := 0) (b := 63) (by decide +kernel) rfl
theorem dX6_replay_19 : decode cX6_replay 19 = .ok (.iconst 0, 1) := dk_3 (by decide +kernel)
theorem dX6_replay_20 : decode cX6_replay 20 = .ok (.istore 4, 2) := dk_54 (a := 4) (by decide +kernel)
theorem dX6_replay_22 : decode cX6_replay 22 = .ok (.iload 4, 2) := dk_21 (a := 4) (by decide +kernel)
theorem dX6_replay_24 : decode cX6_replay 24 = .ok (.aload_n 0, 1) := dk_42 (by decide +kernel)
theorem dX6_replay_25 : decode cX6_replay 25 = .ok (.getfield 35, 3) := dk_180 (a := 0) (b := 35) (by decide +kernel) rfl
theorem dX6_replay_28 : decode cX6_replay 28 = .ok (.getfield 56, 3) := dk_180 (a := 0) (b := 56) (by decide +kernel) rfl
theorem dX6_replay_31 : decode cX6_replay 31 = .ok (.if_icmp .ge 97, 3) := dk_162 (a := 0) (b := 97) (by decide +kernel) (by decide +kernel)
theorem dX6_replay_34 : decode cX6_replay 34 = .ok (.aload_n 0, 1) := dk_42 (by decide +kernel)
theorem dX6_replay_35 : decode cX6_replay 35 = .ok (.getfield 35, 3) := dk_180 (a := 0) (b := 35) (by decide +kernel) rfl
theorem dX6_replay_38 : decode cX6_replay 38 = .ok (.getfield 157, 3) := dk_180 (a := 0) (b := 157) (by decide +kernel) rfl
theorem dX6_replay_41 : decode cX6_replay 41 = .ok (.iload 4, 2) := dk_21 (a := 4) (by decide +kernel)
theorem dX6_replay_43 : decode cX6_replay 43 = .ok (.iaload, 1) := dk_46 (by decide +kernel)
theorem dX6_replay_44 : decode cX6_replay 44 = .ok (.istore 5, 2) := dk_54 (a := 5) (by decide +kernel)
theorem dX6_replay_46 : decode cX6_replay 46 = .ok (.aload_n 0, 1) := dk_42 (by decide +kernel)
theorem dX6_replay_47 : decode cX6_replay 47 = .ok (.getfield 35, 3) := dk_180 (a := 0) (b := 35) (by decide +kernel) rfl
theorem dX6_replay_50 : decode cX6_replay 50 = .ok (.getfield 160, 3) := dk_180 (a := 0) (b := 160) (by decide +kernel) rfl
theorem dX6_replay_53 : decode cX6_replay 53 = .ok (.iload 4, 2) := dk_21 (a := 4) (by decide +kernel)
theorem dX6_replay_55 : decode cX6_replay 55 = .ok (.iaload, 1) := dk_46 (by decide +kernel)
theorem dX6_replay_56 : decode cX6_replay 56 = .ok (.istore 6, 2) := dk_54 (a := 6) (by decide +kernel)
theorem dX6_replay_58 : decode cX6_replay 58 = .ok (.aload_n 0, 1) := dk_42 (by decide +kernel)
theorem dX6_replay_59 : decode cX6_replay 59 = .ok (.getfield 35, 3) := dk_180 (a := 0) (b := 35) (by decide +kernel) rfl
theorem dX6_replay_62 : decode cX6_replay 62 = .ok (.getfield 163, 3) := dk_180 (a := 0) (b := 163) (by decide +kernel) rfl
theorem dX6_replay_65 : decode cX6_replay 65 = .ok (.iload 4, 2) := dk_21 (a := 4) (by decide +kernel)
theorem dX6_replay_67 : decode cX6_replay 67 = .ok (.iaload, 1) := dk_46 (by decide +kernel)
theorem dX6_replay_68 : decode cX6_replay 68 = .ok (.istore 7, 2) := dk_54 (a := 7) (by decide +kernel)
theorem dX6_replay_70 : decode cX6_replay 70 = .ok (.iload 7, 2) := dk_21 (a := 7) (by decide +kernel)
theorem dX6_replay_72 : decode cX6_replay 72 = .ok (.iconst 4, 1) := dk_7 (by decide +kernel)
theorem dX6_replay_73 : decode cX6_replay 73 = .ok (.if_icmp .eq 35, 3) := dk_159 (a := 0) (b := 35) (by decide +kernel) (by decide +kernel)
theorem dX6_replay_76 : decode cX6_replay 76 = .ok (.aload_n 0, 1) := dk_42 (by decide +kernel)
theorem dX6_replay_77 : decode cX6_replay 77 = .ok (.aload_n 2, 1) := dk_44 (by decide +kernel)
theorem dX6_replay_78 : decode cX6_replay 78 = .ok (.aload_n 1, 1) := dk_43 (by decide +kernel)
theorem dX6_replay_79 : decode cX6_replay 79 = .ok (.iload 5, 2) := dk_21 (a := 5) (by decide +kernel)
theorem dX6_replay_81 : decode cX6_replay 81 = .ok (.iload 6, 2) := dk_21 (a := 6) (by decide +kernel)
theorem dX6_replay_83 : decode cX6_replay 83 = .ok (.iload 7, 2) := dk_21 (a := 7) (by decide +kernel)
theorem dX6_replay_85 : decode cX6_replay 85 = .ok (.aload_n 0, 1) := dk_42 (by decide +kernel)
theorem dX6_replay_86 : decode cX6_replay 86 = .ok (.getfield 35, 3) := dk_180 (a := 0) (b := 35) (by decide +kernel) rfl
theorem dX6_replay_89 : decode cX6_replay 89 = .ok (.getfield 166, 3) := dk_180 (a := 0) (b := 166) (by decide +kernel) rfl
theorem dX6_replay_92 : decode cX6_replay 92 = .ok (.iload 4, 2) := dk_21 (a := 4) (by decide +kernel)
theorem dX6_replay_94 : decode cX6_replay 94 = .ok (.iaload, 1) := dk_46 (by decide +kernel)
theorem dX6_replay_95 : decode cX6_replay 95 = .ok (.aload_n 3, 1) := dk_45 (by decide +kernel)
theorem dX6_replay_96 : decode cX6_replay 96 = .ok (.iload 5, 2) := dk_21 (a := 5) (by decide +kernel)
theorem dX6_replay_98 : decode cX6_replay 98 = .ok (.iaload, 1) := dk_46 (by decide +kernel)
theorem dX6_replay_99 : decode cX6_replay 99 = .ok (.iload 6, 2) := dk_21 (a := 6) (by decide +kernel)
theorem dX6_replay_101 : decode cX6_replay 101 = .ok (.ishr, 1) := dk_122 (by decide +kernel)
theorem dX6_replay_102 : decode cX6_replay 102 = .ok (.iconst 1, 1) := dk_4 (by decide +kernel)
theorem dX6_replay_103 : decode cX6_replay 103 = .ok (.iand, 1) := dk_126 (by decide +kernel)
theorem dX6_replay_104 : decode cX6_replay 104 = .ok (.invokevirtual 110, 3) := dk_182 (a := 0) (b := 110) (by decide +kernel) rfl
theorem dX6_replay_107 : decode cX6_replay 107 = .ok (.pop, 1) := dk_87 (by decide +kernel)
theorem dX6_replay_108 : decode cX6_replay 108 = .ok (.iload 7, 2) := dk_21 (a := 7) (by decide +kernel)
theorem dX6_replay_110 : decode cX6_replay 110 = .ok (.iconst 2, 1) := dk_5 (by decide +kernel)
theorem dX6_replay_111 : decode cX6_replay 111 = .ok (.if_icmp .lt 11, 3) := dk_161 (a := 0) (b := 11) (by decide +kernel) (by decide +kernel)
theorem dX6_replay_114 : decode cX6_replay 114 = .ok (.aload_n 3, 1) := dk_45 (by decide +kernel)
theorem dX6_replay_115 : decode cX6_replay 115 = .ok (.iload 5, 2) := dk_21 (a := 5) (by decide +kernel)
theorem dX6_replay_117 : decode cX6_replay 117 = .ok (.iload 6, 2) := dk_21 (a := 6) (by decide +kernel)
theorem dX6_replay_119 : decode cX6_replay 119 = .ok (.invokestatic 118, 3) := dk_184 (a := 0) (b := 118) (by decide +kernel) rfl
theorem dX6_replay_122 : decode cX6_replay 122 = .ok (.iinc 4 1, 3) := dk_132 (a := 4) (b := 1) (by decide +kernel) (by decide +kernel)
theorem dX6_replay_125 : decode cX6_replay 125 = .ok (.goto (-103), 3) := dk_167 (a := 255) (b := 153) (by decide +kernel) (by decide +kernel)
theorem dX6_replay_128 : decode cX6_replay 128 = .ok (.return_, 1) := dk_177 (by decide +kernel)
theorem dX6_hanging_0 : decode cX6_hanging 0 = .ok (.iload_n 2, 1) := dk_28 (by decide +kernel)
theorem dX6_hanging_1 : decode cX6_hanging 1 = .ok (.ifCond .ge 7, 3) := dk_156 (a := 0) (b := 7) (by decide +kernel) (by decide +kernel)
theorem dX6_hanging_4 : decode cX6_hanging 4 = .ok (.iconst 0, 1) := dk_3 (by decide +kernel)
theorem dX6_hanging_5 : decode cX6_hanging 5 = .ok (.goto 6, 3) := dk_167 (a := 0) (b := 6) (by decide +kernel) (by decide +kernel)
theorem dX6_hanging_8 : decode cX6_hanging 8 = .ok (.iconst 1, 1) := dk_4 (by decide +kernel)
theorem dX6_hanging_9 : decode cX6_hanging 9 = .ok (.iload_n 2, 1) := dk_28 (by decide +kernel)
theorem dX6_hanging_10 : decode cX6_hanging 10 = .ok (.ishl, 1) := dk_120 (by decide +kernel)
theorem dX6_hanging_11 : decode cX6_hanging 11 = .ok (.istore_n 3, 1) := dk_62 (by decide +kernel)
theorem dX6_hanging_12 : decode cX6_hanging 12 = .ok (.iconst 1, 1) := dk_4 (by decide +kernel)
theorem dX6_hanging_13 : decode cX6_hanging 13 = .ok (.iload_n 1, 1) := dk_27 (by decide +kernel)
theorem dX6_hanging_14 : decode cX6_hanging 14 = .ok (.ishl, 1) := dk_120 (by decide +kernel)
theorem dX6_hanging_15 : decode cX6_hanging 15 = .ok (.aload_n 0, 1) := dk_42 (by decide +kernel)
theorem dX6_hanging_16 : decode cX6_hanging 16 = .ok (.getfield 39, 3) := dk_180 (a := 0) (b := 39) (by decide +kernel) rfl
theorem dX6_hanging_19 : decode cX6_hanging 19 = .ok (.iload_n 1, 1) := dk_27 (by decide +kernel)
theorem dX6_hanging_20 : decode cX6_hanging 20 = .ok (.iaload, 1) := dk_46 (by decide +kernel)
theorem dX6_hanging_21 : decode cX6_hanging 21 = .ok (.iload_n 3, 1) := dk_29 (by decide +kernel)
theorem dX6_hanging_22 : decode cX6_hanging 22 = .ok (.iconst (-1), 1) := dk_2 (by decide +kernel)
theorem dX6_hanging_23 : decode cX6_hanging 23 = .ok (.ixor, 1) := dk_130 (by decide +kernel)
theorem dX6_hanging_24 : decode cX6_hanging 24 = .ok (.iand, 1) := dk_126 (by decide +kernel)
theorem dX6_hanging_25 : decode cX6_hanging 25 = .ok (.ior, 1) := dk_128 (by decide +kernel)
theorem dX6_hanging_26 : decode cX6_hanging 26 = .ok (.istore 4, 2) := dk_54 (a := 4) (by decide +kernel)
theorem dX6_hanging_28 : decode cX6_hanging 28 = .ok (.iconst 0, 1) := dk_3 (by decide +kernel)
theorem dX6_hanging_29 : decode cX6_hanging 29 = .ok (.istore 5, 2) := dk_54 (a := 5) (by decide +kernel)
theorem dX6_hanging_31 : decode cX6_hanging 31 = .ok (.iload 5, 2) := dk_21 (a := 5) (by decide +kernel)
theorem dX6_hanging_33 : decode cX6_hanging 33 = .ok (.bipush 16, 2) := dk_16 (a := 16) (by decide +kernel) (by decide +kernel)
theorem dX6_hanging_35 : decode cX6_hanging 35 = .ok (.if_icmp .ge 72, 3) := dk_162 (a := 0) (b := 72) (by decide +kernel) (by decide +kernel)
theorem dX6_hanging_38 : decode cX6_hanging 38 = .ok (.iload 4, 2) := dk_21 (a := 4) (by decide +kernel)
theorem dX6_hanging_40 : decode cX6_hanging 40 = .ok (.istore 6, 2) := dk_54 (a := 6) (by decide +kernel)
theorem dX6_hanging_42 : decode cX6_hanging 42 = .ok (.iconst 0, 1) := dk_3 (by decide +kernel)
theorem dX6_hanging_43 : decode cX6_hanging 43 = .ok (.istore 7, 2) := dk_54 (a := 7) (by decide +kernel)
theorem dX6_hanging_45 : decode cX6_hanging 45 = .ok (.iload 7, 2) := dk_21 (a := 7) (by decide +kernel)
theorem dX6_hanging_47 : decode cX6_hanging 47 = .ok (.bipush 16, 2) := dk_16 (a := 16) (by decide +kernel) (by decide +kernel)
theorem dX6_hanging_49 : decode cX6_hanging 49 = .ok (.if_icmp .ge 38, 3) := dk_162 (a := 0) (b := 38) (by decide +kernel) (by decide +kernel)
theorem dX6_hanging_52 : decode cX6_hanging 52 = .ok (.iload 4, 2) := dk_21 (a := 4) (by decide +kernel)
theorem dX6_hanging_54 : decode cX6_hanging 54 = .ok (.iload 7, 2) := dk_21 (a := 7) (by decide +kernel)
theorem dX6_hanging_56 : decode cX6_hanging 56 = .ok (.ishr, 1) := dk_122 (by decide +kernel)
theorem dX6_hanging_57 : decode cX6_hanging 57 = .ok (.iconst 1, 1) := dk_4 (by decide +kernel)
theorem dX6_hanging_58 : decode cX6_hanging 58 = .ok (.iand, 1) := dk_126 (by decide +kernel)
theorem dX6_hanging_59 : decode cX6_hanging 59 = .ok (.iconst 1, 1) := dk_4 (by decide +kernel)
theorem dX6_hanging_60 : decode cX6_hanging 60 = .ok (.if_icmp .ne 21, 3) := dk_160 (a := 0) (b := 21) (by decide +kernel) (by decide +kernel)
theorem dX6_hanging_63 : decode cX6_hanging 63 = .ok (.iload 7, 2) := dk_21 (a := 7) (by decide +kernel)
theorem dX6_hanging_65 : decode cX6_hanging 65 = .ok (.iload_n 1, 1) := dk_27 (by decide +kernel)
theorem dX6_hanging_66 : decode cX6_hanging 66 = .ok (.if_icmp .eq 15, 3) := dk_159 (a := 0) (b := 15) (by decide +kernel) (by decide +kernel)
theorem dX6_hanging_69 : decode cX6_hanging 69 = .ok (.iload 6, 2) := dk_21 (a := 6) (by decide +kernel)
theorem dX6_hanging_71 : decode cX6_hanging 71 = .ok (.aload_n 0, 1) := dk_42 (by decide +kernel)
theorem dX6_hanging_72 : decode cX6_hanging 72 = .ok (.getfield 39, 3) := dk_180 (a := 0) (b := 39) (by decide +kernel) rfl
theorem dX6_hanging_75 : decode cX6_hanging 75 = .ok (.iload 7, 2) := dk_21 (a := 7) (by decide +kernel)
theorem dX6_hanging_77 : decode cX6_hanging 77 = .ok (.iaload, 1) := dk_46 (by decide +kernel)
theorem dX6_hanging_78 : decode cX6_hanging 78 = .ok (.ior, 1) := dk_128 (by decide +kernel)
theorem dX6_hanging_79 : decode cX6_hanging 79 = .ok (.istore 6, 2) := dk_54 (a := 6) (by decide +kernel)
theorem dX6_hanging_81 : decode cX6_hanging 81 = .ok (.iinc 7 1, 3) := dk_132 (a := 7) (b := 1) (by decide +kernel) (by decide +kernel)
theorem dX6_hanging_84 : decode cX6_hanging 84 = .ok (.goto (-39), 3) := dk_167 (a := 255) (b := 217) (by decide +kernel) (by decide +kernel)
theorem dX6_hanging_87 : decode cX6_hanging 87 = .ok (.iload 6, 2) := dk_21 (a := 6) (by decide +kernel)
theorem dX6_hanging_89 : decode cX6_hanging 89 = .ok (.iload 4, 2) := dk_21 (a := 4) (by decide +kernel)
theorem dX6_hanging_91 : decode cX6_hanging 91 = .ok (.if_icmp .ne 6, 3) := dk_160 (a := 0) (b := 6) (by decide +kernel) (by decide +kernel)
theorem dX6_hanging_94 : decode cX6_hanging 94 = .ok (.iload 4, 2) := dk_21 (a := 4) (by decide +kernel)
theorem dX6_hanging_96 : decode cX6_hanging 96 = .ok (.ireturn, 1) := dk_172 (by decide +kernel)
theorem dX6_hanging_97 : decode cX6_hanging 97 = .ok (.iload 6, 2) := dk_21 (a := 6) (by decide +kernel)
theorem dX6_hanging_99 : decode cX6_hanging 99 = .ok (.istore 4, 2) := dk_54 (a := 4) (by decide +kernel)
theorem dX6_hanging_101 : decode cX6_hanging 101 = .ok (.iinc 5 1, 3) := dk_132 (a := 5) (b := 1) (by decide +kernel) (by decide +kernel)
theorem dX6_hanging_104 : decode cX6_hanging 104 = .ok (.goto (-73), 3) := dk_167 (a := 255) (b := 183) (by decide +kernel) (by decide +kernel)
theorem dX6_hanging_107 : decode cX6_hanging 107 = .ok (.iload 4, 2) := dk_21 (a := 4) (by decide +kernel)
theorem dX6_hanging_109 : decode cX6_hanging 109 = .ok (.ireturn, 1) := dk_172 (by decide +kernel)
theorem dX6_holdsTogether_0 : decode cX6_holdsTogether 0 = .ok (.aload_n 0, 1) := dk_42 (by decide +kernel)
theorem dX6_holdsTogether_1 : decode cX6_holdsTogether 1 = .ok (.iload_n 1, 1) := dk_27 (by decide +kernel)
theorem dX6_holdsTogether_2 : decode cX6_holdsTogether 2 = .ok (.iload_n 2, 1) := dk_28 (by decide +kernel)
theorem dX6_holdsTogether_3 : decode cX6_holdsTogether 3 = .ok (.invokevirtual 168, 3) := dk_182 (a := 0) (b := 168) (by decide +kernel) rfl
theorem dX6_holdsTogether_6 : decode cX6_holdsTogether 6 = .ok (.iload_n 2, 1) := dk_28 (by decide +kernel)
theorem dX6_holdsTogether_7 : decode cX6_holdsTogether 7 = .ok (.ishr, 1) := dk_122 (by decide +kernel)
theorem dX6_holdsTogether_8 : decode cX6_holdsTogether 8 = .ok (.iconst 1, 1) := dk_4 (by decide +kernel)
theorem dX6_holdsTogether_9 : decode cX6_holdsTogether 9 = .ok (.iand, 1) := dk_126 (by decide +kernel)
theorem dX6_holdsTogether_10 : decode cX6_holdsTogether 10 = .ok (.ifCond .ne 7, 3) := dk_154 (a := 0) (b := 7) (by decide +kernel) (by decide +kernel)
theorem dX6_holdsTogether_13 : decode cX6_holdsTogether 13 = .ok (.iconst 1, 1) := dk_4 (by decide +kernel)
theorem dX6_holdsTogether_14 : decode cX6_holdsTogether 14 = .ok (.goto 4, 3) := dk_167 (a := 0) (b := 4) (by decide +kernel) (by decide +kernel)
theorem dX6_holdsTogether_17 : decode cX6_holdsTogether 17 = .ok (.iconst 0, 1) := dk_3 (by decide +kernel)
theorem dX6_holdsTogether_18 : decode cX6_holdsTogether 18 = .ok (.ireturn, 1) := dk_172 (by decide +kernel)
theorem dX6_canDrop_0 : decode cX6_canDrop 0 = .ok (.iload_n 1, 1) := dk_27 (by decide +kernel)
theorem dX6_canDrop_1 : decode cX6_canDrop 1 = .ok (.iload_n 2, 1) := dk_28 (by decide +kernel)
theorem dX6_canDrop_2 : decode cX6_canDrop 2 = .ok (.if_icmp .eq 38, 3) := dk_159 (a := 0) (b := 38) (by decide +kernel) (by decide +kernel)
theorem dX6_canDrop_5 : decode cX6_canDrop 5 = .ok (.aload_n 0, 1) := dk_42 (by decide +kernel)
theorem dX6_canDrop_6 : decode cX6_canDrop 6 = .ok (.iload_n 1, 1) := dk_27 (by decide +kernel)
theorem dX6_canDrop_7 : decode cX6_canDrop 7 = .ok (.iload_n 2, 1) := dk_28 (by decide +kernel)
theorem dX6_canDrop_8 : decode cX6_canDrop 8 = .ok (.invokevirtual 94, 3) := dk_182 (a := 0) (b := 94) (by decide +kernel) rfl
theorem dX6_canDrop_11 : decode cX6_canDrop 11 = .ok (.iconst 1, 1) := dk_4 (by decide +kernel)
theorem dX6_canDrop_12 : decode cX6_canDrop 12 = .ok (.if_icmp .ne 28, 3) := dk_160 (a := 0) (b := 28) (by decide +kernel) (by decide +kernel)
theorem dX6_canDrop_15 : decode cX6_canDrop 15 = .ok (.aload_n 0, 1) := dk_42 (by decide +kernel)
theorem dX6_canDrop_16 : decode cX6_canDrop 16 = .ok (.getfield 28, 3) := dk_180 (a := 0) (b := 28) (by decide +kernel) rfl
theorem dX6_canDrop_19 : decode cX6_canDrop 19 = .ok (.iload_n 1, 1) := dk_27 (by decide +kernel)
theorem dX6_canDrop_20 : decode cX6_canDrop 20 = .ok (.iload_n 2, 1) := dk_28 (by decide +kernel)
theorem dX6_canDrop_21 : decode cX6_canDrop 21 = .ok (.invokevirtual 154, 3) := dk_182 (a := 0) (b := 154) (by decide +kernel) rfl
theorem dX6_canDrop_24 : decode cX6_canDrop 24 = .ok (.ifCond .ne 16, 3) := dk_154 (a := 0) (b := 16) (by decide +kernel) (by decide +kernel)
theorem dX6_canDrop_27 : decode cX6_canDrop 27 = .ok (.aload_n 0, 1) := dk_42 (by decide +kernel)
theorem dX6_canDrop_28 : decode cX6_canDrop 28 = .ok (.iload_n 1, 1) := dk_27 (by decide +kernel)
theorem dX6_canDrop_29 : decode cX6_canDrop 29 = .ok (.iload_n 2, 1) := dk_28 (by decide +kernel)
theorem dX6_canDrop_30 : decode cX6_canDrop 30 = .ok (.invokevirtual 171, 3) := dk_182 (a := 0) (b := 171) (by decide +kernel) rfl
theorem dX6_canDrop_33 : decode cX6_canDrop 33 = .ok (.ifCond .ne 7, 3) := dk_154 (a := 0) (b := 7) (by decide +kernel) (by decide +kernel)
theorem dX6_canDrop_36 : decode cX6_canDrop 36 = .ok (.iconst 1, 1) := dk_4 (by decide +kernel)
theorem dX6_canDrop_37 : decode cX6_canDrop 37 = .ok (.goto 4, 3) := dk_167 (a := 0) (b := 4) (by decide +kernel) (by decide +kernel)
theorem dX6_canDrop_40 : decode cX6_canDrop 40 = .ok (.iconst 0, 1) := dk_3 (by decide +kernel)
theorem dX6_canDrop_41 : decode cX6_canDrop 41 = .ok (.ireturn, 1) := dk_172 (by decide +kernel)
theorem dX6_followCalls_0 : decode cX6_followCalls 0 = .ok (.iconst 0, 1) := dk_3 (by decide +kernel)
theorem dX6_followCalls_1 : decode cX6_followCalls 1 = .ok (.istore_n 1, 1) := dk_60 (by decide +kernel)
theorem dX6_followCalls_2 : decode cX6_followCalls 2 = .ok (.iload_n 1, 1) := dk_27 (by decide +kernel)
theorem dX6_followCalls_3 : decode cX6_followCalls 3 = .ok (.bipush 16, 2) := dk_16 (a := 16) (by decide +kernel) (by decide +kernel)
theorem dX6_followCalls_5 : decode cX6_followCalls 5 = .ok (.if_icmp .ge 18, 3) := dk_162 (a := 0) (b := 18) (by decide +kernel) (by decide +kernel)
theorem dX6_followCalls_8 : decode cX6_followCalls 8 = .ok (.aload_n 0, 1) := dk_42 (by decide +kernel)
theorem dX6_followCalls_9 : decode cX6_followCalls 9 = .ok (.getfield 43, 3) := dk_180 (a := 0) (b := 43) (by decide +kernel) rfl
theorem dX6_followCalls_12 : decode cX6_followCalls 12 = .ok (.iload_n 1, 1) := dk_27 (by decide +kernel)
theorem dX6_followCalls_13 : decode cX6_followCalls 13 = .ok (.iconst 1, 1) := dk_4 (by decide +kernel)
theorem dX6_followCalls_14 : decode cX6_followCalls 14 = .ok (.iload_n 1, 1) := dk_27 (by decide +kernel)
theorem dX6_followCalls_15 : decode cX6_followCalls 15 = .ok (.ishl, 1) := dk_120 (by decide +kernel)
theorem dX6_followCalls_16 : decode cX6_followCalls 16 = .ok (.iastore, 1) := dk_79 (by decide +kernel)
theorem dX6_followCalls_17 : decode cX6_followCalls 17 = .ok (.iinc 1 1, 3) := dk_132 (a := 1) (b := 1) (by decide +kernel) (by decide +kernel)
theorem dX6_followCalls_20 : decode cX6_followCalls 20 = .ok (.goto (-18), 3) := dk_167 (a := 255) (b := 238) (by decide +kernel) (by decide +kernel)
theorem dX6_followCalls_23 : decode cX6_followCalls 23 = .ok (.iconst 0, 1) := dk_3 (by decide +kernel)
theorem dX6_followCalls_24 : decode cX6_followCalls 24 = .ok (.istore_n 1, 1) := dk_60 (by decide +kernel)
theorem dX6_followCalls_25 : decode cX6_followCalls 25 = .ok (.iload_n 1, 1) := dk_27 (by decide +kernel)
theorem dX6_followCalls_26 : decode cX6_followCalls 26 = .ok (.aload_n 0, 1) := dk_42 (by decide +kernel)
theorem dX6_followCalls_27 : decode cX6_followCalls 27 = .ok (.getfield 35, 3) := dk_180 (a := 0) (b := 35) (by decide +kernel) rfl
theorem dX6_followCalls_30 : decode cX6_followCalls 30 = .ok (.getfield 56, 3) := dk_180 (a := 0) (b := 56) (by decide +kernel) rfl
theorem dX6_followCalls_33 : decode cX6_followCalls 33 = .ok (.if_icmp .ge 63, 3) := dk_162 (a := 0) (b := 63) (by decide +kernel) (by decide +kernel)
theorem dX6_followCalls_36 : decode cX6_followCalls 36 = .ok (.aload_n 0, 1) := dk_42 (by decide +kernel)
theorem dX6_followCalls_37 : decode cX6_followCalls 37 = .ok (.getfield 35, 3) := dk_180 (a := 0) (b := 35) (by decide +kernel) rfl
theorem dX6_followCalls_40 : decode cX6_followCalls 40 = .ok (.getfield 163, 3) := dk_180 (a := 0) (b := 163) (by decide +kernel) rfl
theorem dX6_followCalls_43 : decode cX6_followCalls 43 = .ok (.iload_n 1, 1) := dk_27 (by decide +kernel)
theorem dX6_followCalls_44 : decode cX6_followCalls 44 = .ok (.iaload, 1) := dk_46 (by decide +kernel)
theorem dX6_followCalls_45 : decode cX6_followCalls 45 = .ok (.iconst 2, 1) := dk_5 (by decide +kernel)
theorem dX6_followCalls_46 : decode cX6_followCalls 46 = .ok (.if_icmp .lt 44, 3) := dk_161 (a := 0) (b := 44) (by decide +kernel) (by decide +kernel)
theorem dX6_followCalls_49 : decode cX6_followCalls 49 = .ok (.aload_n 0, 1) := dk_42 (by decide +kernel)
theorem dX6_followCalls_50 : decode cX6_followCalls 50 = .ok (.getfield 35, 3) := dk_180 (a := 0) (b := 35) (by decide +kernel) rfl
theorem dX6_followCalls_53 : decode cX6_followCalls 53 = .ok (.getfield 163, 3) := dk_180 (a := 0) (b := 163) (by decide +kernel) rfl
theorem dX6_followCalls_56 : decode cX6_followCalls 56 = .ok (.iload_n 1, 1) := dk_27 (by decide +kernel)
theorem dX6_followCalls_57 : decode cX6_followCalls 57 = .ok (.iaload, 1) := dk_46 (by decide +kernel)
theorem dX6_followCalls_58 : decode cX6_followCalls 58 = .ok (.iconst 4, 1) := dk_7 (by decide +kernel)
theorem dX6_followCalls_59 : decode cX6_followCalls 59 = .ok (.if_icmp .eq 31, 3) := dk_159 (a := 0) (b := 31) (by decide +kernel) (by decide +kernel)
theorem dX6_followCalls_62 : decode cX6_followCalls 62 = .ok (.aload_n 0, 1) := dk_42 (by decide +kernel)
theorem dX6_followCalls_63 : decode cX6_followCalls 63 = .ok (.getfield 43, 3) := dk_180 (a := 0) (b := 43) (by decide +kernel) rfl
theorem dX6_followCalls_66 : decode cX6_followCalls 66 = .ok (.aload_n 0, 1) := dk_42 (by decide +kernel)
theorem dX6_followCalls_67 : decode cX6_followCalls 67 = .ok (.getfield 35, 3) := dk_180 (a := 0) (b := 35) (by decide +kernel) rfl
theorem dX6_followCalls_70 : decode cX6_followCalls 70 = .ok (.getfield 157, 3) := dk_180 (a := 0) (b := 157) (by decide +kernel) rfl
theorem dX6_followCalls_73 : decode cX6_followCalls 73 = .ok (.iload_n 1, 1) := dk_27 (by decide +kernel)
theorem dX6_followCalls_74 : decode cX6_followCalls 74 = .ok (.iaload, 1) := dk_46 (by decide +kernel)
theorem dX6_followCalls_75 : decode cX6_followCalls 75 = .ok (.dup2, 1) := dk_92 (by decide +kernel)
theorem dX6_followCalls_76 : decode cX6_followCalls 76 = .ok (.iaload, 1) := dk_46 (by decide +kernel)
theorem dX6_followCalls_77 : decode cX6_followCalls 77 = .ok (.iconst 1, 1) := dk_4 (by decide +kernel)
theorem dX6_followCalls_78 : decode cX6_followCalls 78 = .ok (.aload_n 0, 1) := dk_42 (by decide +kernel)
theorem dX6_followCalls_79 : decode cX6_followCalls 79 = .ok (.getfield 35, 3) := dk_180 (a := 0) (b := 35) (by decide +kernel) rfl
theorem dX6_followCalls_82 : decode cX6_followCalls 82 = .ok (.getfield 160, 3) := dk_180 (a := 0) (b := 160) (by decide +kernel) rfl
theorem dX6_followCalls_85 : decode cX6_followCalls 85 = .ok (.iload_n 1, 1) := dk_27 (by decide +kernel)
theorem dX6_followCalls_86 : decode cX6_followCalls 86 = .ok (.iaload, 1) := dk_46 (by decide +kernel)
theorem dX6_followCalls_87 : decode cX6_followCalls 87 = .ok (.ishl, 1) := dk_120 (by decide +kernel)
theorem dX6_followCalls_88 : decode cX6_followCalls 88 = .ok (.ior, 1) := dk_128 (by decide +kernel)
theorem dX6_followCalls_89 : decode cX6_followCalls 89 = .ok (.iastore, 1) := dk_79 (by decide +kernel)
theorem dX6_followCalls_90 : decode cX6_followCalls 90 = .ok (.iinc 1 1, 3) := dk_132 (a := 1) (b := 1) (by decide +kernel) (by decide +kernel)
theorem dX6_followCalls_93 : decode cX6_followCalls 93 = .ok (.goto (-68), 3) := dk_167 (a := 255) (b := 188) (by decide +kernel) (by decide +kernel)
theorem dX6_followCalls_96 : decode cX6_followCalls 96 = .ok (.iconst 0, 1) := dk_3 (by decide +kernel)
theorem dX6_followCalls_97 : decode cX6_followCalls 97 = .ok (.istore_n 1, 1) := dk_60 (by decide +kernel)
theorem dX6_followCalls_98 : decode cX6_followCalls 98 = .ok (.iload_n 1, 1) := dk_27 (by decide +kernel)
theorem dX6_followCalls_99 : decode cX6_followCalls 99 = .ok (.bipush 16, 2) := dk_16 (a := 16) (by decide +kernel) (by decide +kernel)
theorem dX6_followCalls_101 : decode cX6_followCalls 101 = .ok (.if_icmp .ge 52, 3) := dk_162 (a := 0) (b := 52) (by decide +kernel) (by decide +kernel)
theorem dX6_followCalls_104 : decode cX6_followCalls 104 = .ok (.iconst 0, 1) := dk_3 (by decide +kernel)
theorem dX6_followCalls_105 : decode cX6_followCalls 105 = .ok (.istore_n 2, 1) := dk_61 (by decide +kernel)
theorem dX6_followCalls_106 : decode cX6_followCalls 106 = .ok (.iload_n 2, 1) := dk_28 (by decide +kernel)
theorem dX6_followCalls_107 : decode cX6_followCalls 107 = .ok (.bipush 16, 2) := dk_16 (a := 16) (by decide +kernel) (by decide +kernel)
theorem dX6_followCalls_109 : decode cX6_followCalls 109 = .ok (.if_icmp .ge 38, 3) := dk_162 (a := 0) (b := 38) (by decide +kernel) (by decide +kernel)
theorem dX6_followCalls_112 : decode cX6_followCalls 112 = .ok (.aload_n 0, 1) := dk_42 (by decide +kernel)
theorem dX6_followCalls_113 : decode cX6_followCalls 113 = .ok (.getfield 43, 3) := dk_180 (a := 0) (b := 43) (by decide +kernel) rfl
theorem dX6_followCalls_116 : decode cX6_followCalls 116 = .ok (.iload_n 2, 1) := dk_28 (by decide +kernel)
theorem dX6_followCalls_117 : decode cX6_followCalls 117 = .ok (.iaload, 1) := dk_46 (by decide +kernel)
theorem dX6_followCalls_118 : decode cX6_followCalls 118 = .ok (.iload_n 1, 1) := dk_27 (by decide +kernel)
theorem dX6_followCalls_119 : decode cX6_followCalls 119 = .ok (.ishr, 1) := dk_122 (by decide +kernel)
theorem dX6_followCalls_120 : decode cX6_followCalls 120 = .ok (.iconst 1, 1) := dk_4 (by decide +kernel)
theorem dX6_followCalls_121 : decode cX6_followCalls 121 = .ok (.iand, 1) := dk_126 (by decide +kernel)
theorem dX6_followCalls_122 : decode cX6_followCalls 122 = .ok (.iconst 1, 1) := dk_4 (by decide +kernel)
theorem dX6_followCalls_123 : decode cX6_followCalls 123 = .ok (.if_icmp .ne 18, 3) := dk_160 (a := 0) (b := 18) (by decide +kernel) (by decide +kernel)
theorem dX6_followCalls_126 : decode cX6_followCalls 126 = .ok (.aload_n 0, 1) := dk_42 (by decide +kernel)
theorem dX6_followCalls_127 : decode cX6_followCalls 127 = .ok (.getfield 43, 3) := dk_180 (a := 0) (b := 43) (by decide +kernel) rfl
theorem dX6_followCalls_130 : decode cX6_followCalls 130 = .ok (.iload_n 2, 1) := dk_28 (by decide +kernel)
theorem dX6_followCalls_131 : decode cX6_followCalls 131 = .ok (.dup2, 1) := dk_92 (by decide +kernel)
theorem dX6_followCalls_132 : decode cX6_followCalls 132 = .ok (.iaload, 1) := dk_46 (by decide +kernel)
theorem dX6_followCalls_133 : decode cX6_followCalls 133 = .ok (.aload_n 0, 1) := dk_42 (by decide +kernel)
theorem dX6_followCalls_134 : decode cX6_followCalls 134 = .ok (.getfield 43, 3) := dk_180 (a := 0) (b := 43) (by decide +kernel) rfl
theorem dX6_followCalls_137 : decode cX6_followCalls 137 = .ok (.iload_n 1, 1) := dk_27 (by decide +kernel)
theorem dX6_followCalls_138 : decode cX6_followCalls 138 = .ok (.iaload, 1) := dk_46 (by decide +kernel)
theorem dX6_followCalls_139 : decode cX6_followCalls 139 = .ok (.ior, 1) := dk_128 (by decide +kernel)
theorem dX6_followCalls_140 : decode cX6_followCalls 140 = .ok (.iastore, 1) := dk_79 (by decide +kernel)
theorem dX6_followCalls_141 : decode cX6_followCalls 141 = .ok (.iinc 2 1, 3) := dk_132 (a := 2) (b := 1) (by decide +kernel) (by decide +kernel)
theorem dX6_followCalls_144 : decode cX6_followCalls 144 = .ok (.goto (-38), 3) := dk_167 (a := 255) (b := 218) (by decide +kernel) (by decide +kernel)
theorem dX6_followCalls_147 : decode cX6_followCalls 147 = .ok (.iinc 1 1, 3) := dk_132 (a := 1) (b := 1) (by decide +kernel) (by decide +kernel)
theorem dX6_followCalls_150 : decode cX6_followCalls 150 = .ok (.goto (-52), 3) := dk_167 (a := 255) (b := 204) (by decide +kernel) (by decide +kernel)
theorem dX6_followCalls_153 : decode cX6_followCalls 153 = .ok (.return_, 1) := dk_177 (by decide +kernel)
theorem dX6_ringBits_0 : decode cX6_ringBits 0 = .ok (.aload_n 0, 1) := dk_42 (by decide +kernel)
theorem dX6_ringBits_1 : decode cX6_ringBits 1 = .ok (.getfield 43, 3) := dk_180 (a := 0) (b := 43) (by decide +kernel) rfl
theorem dX6_ringBits_4 : decode cX6_ringBits 4 = .ok (.iload_n 1, 1) := dk_27 (by decide +kernel)
theorem dX6_ringBits_5 : decode cX6_ringBits 5 = .ok (.iaload, 1) := dk_46 (by decide +kernel)
theorem dX6_ringBits_6 : decode cX6_ringBits 6 = .ok (.istore_n 2, 1) := dk_61 (by decide +kernel)
theorem dX6_ringBits_7 : decode cX6_ringBits 7 = .ok (.iload_n 2, 1) := dk_28 (by decide +kernel)
theorem dX6_ringBits_8 : decode cX6_ringBits 8 = .ok (.invokestatic 101, 3) := dk_184 (a := 0) (b := 101) (by decide +kernel) rfl
theorem dX6_ringBits_11 : decode cX6_ringBits 11 = .ok (.iconst 2, 1) := dk_5 (by decide +kernel)
theorem dX6_ringBits_12 : decode cX6_ringBits 12 = .ok (.if_icmp .ge 5, 3) := dk_162 (a := 0) (b := 5) (by decide +kernel) (by decide +kernel)
theorem dX6_ringBits_15 : decode cX6_ringBits 15 = .ok (.iconst 0, 1) := dk_3 (by decide +kernel)
theorem dX6_ringBits_16 : decode cX6_ringBits 16 = .ok (.ireturn, 1) := dk_172 (by decide +kernel)
theorem dX6_ringBits_17 : decode cX6_ringBits 17 = .ok (.iconst 0, 1) := dk_3 (by decide +kernel)
theorem dX6_ringBits_18 : decode cX6_ringBits 18 = .ok (.istore_n 3, 1) := dk_62 (by decide +kernel)
theorem dX6_ringBits_19 : decode cX6_ringBits 19 = .ok (.iload_n 3, 1) := dk_29 (by decide +kernel)
theorem dX6_ringBits_20 : decode cX6_ringBits 20 = .ok (.bipush 16, 2) := dk_16 (a := 16) (by decide +kernel) (by decide +kernel)
theorem dX6_ringBits_22 : decode cX6_ringBits 22 = .ok (.if_icmp .ge 30, 3) := dk_162 (a := 0) (b := 30) (by decide +kernel) (by decide +kernel)
theorem dX6_ringBits_25 : decode cX6_ringBits 25 = .ok (.iload_n 2, 1) := dk_28 (by decide +kernel)
theorem dX6_ringBits_26 : decode cX6_ringBits 26 = .ok (.iload_n 3, 1) := dk_29 (by decide +kernel)
theorem dX6_ringBits_27 : decode cX6_ringBits 27 = .ok (.ishr, 1) := dk_122 (by decide +kernel)
theorem dX6_ringBits_28 : decode cX6_ringBits 28 = .ok (.iconst 1, 1) := dk_4 (by decide +kernel)
theorem dX6_ringBits_29 : decode cX6_ringBits 29 = .ok (.iand, 1) := dk_126 (by decide +kernel)
theorem dX6_ringBits_30 : decode cX6_ringBits 30 = .ok (.iconst 1, 1) := dk_4 (by decide +kernel)
theorem dX6_ringBits_31 : decode cX6_ringBits 31 = .ok (.if_icmp .ne 15, 3) := dk_160 (a := 0) (b := 15) (by decide +kernel) (by decide +kernel)
theorem dX6_ringBits_34 : decode cX6_ringBits 34 = .ok (.aload_n 0, 1) := dk_42 (by decide +kernel)
theorem dX6_ringBits_35 : decode cX6_ringBits 35 = .ok (.getfield 43, 3) := dk_180 (a := 0) (b := 43) (by decide +kernel) rfl
theorem dX6_ringBits_38 : decode cX6_ringBits 38 = .ok (.iload_n 3, 1) := dk_29 (by decide +kernel)
theorem dX6_ringBits_39 : decode cX6_ringBits 39 = .ok (.iaload, 1) := dk_46 (by decide +kernel)
theorem dX6_ringBits_40 : decode cX6_ringBits 40 = .ok (.iload_n 2, 1) := dk_28 (by decide +kernel)
theorem dX6_ringBits_41 : decode cX6_ringBits 41 = .ok (.if_icmp .eq 5, 3) := dk_159 (a := 0) (b := 5) (by decide +kernel) (by decide +kernel)
theorem dX6_ringBits_44 : decode cX6_ringBits 44 = .ok (.iconst 0, 1) := dk_3 (by decide +kernel)
theorem dX6_ringBits_45 : decode cX6_ringBits 45 = .ok (.ireturn, 1) := dk_172 (by decide +kernel)
theorem dX6_ringBits_46 : decode cX6_ringBits 46 = .ok (.iinc 3 1, 3) := dk_132 (a := 3) (b := 1) (by decide +kernel) (by decide +kernel)
theorem dX6_ringBits_49 : decode cX6_ringBits 49 = .ok (.goto (-30), 3) := dk_167 (a := 255) (b := 226) (by decide +kernel) (by decide +kernel)
theorem dX6_ringBits_52 : decode cX6_ringBits 52 = .ok (.iload_n 2, 1) := dk_28 (by decide +kernel)
theorem dX6_ringBits_53 : decode cX6_ringBits 53 = .ok (.ireturn, 1) := dk_172 (by decide +kernel)
theorem dX7_init_0 : decode cX7_init 0 = .ok (.aload_n 0, 1) := dk_42 (by decide +kernel)
theorem dX7_init_1 : decode cX7_init 1 = .ok (.invokespecial 3, 3) := dk_183 (a := 0) (b := 3) (by decide +kernel) rfl
theorem dX7_init_4 : decode cX7_init 4 = .ok (.aload_n 0, 1) := dk_42 (by decide +kernel)
theorem dX7_init_5 : decode cX7_init 5 = .ok (.iconst 3, 1) := dk_6 (by decide +kernel)
theorem dX7_init_6 : decode cX7_init 6 = .ok (.putfield 11, 3) := dk_181 (a := 0) (b := 11) (by decide +kernel) rfl
theorem dX7_init_9 : decode cX7_init 9 = .ok (.aload_n 0, 1) := dk_42 (by decide +kernel)
theorem dX7_init_10 : decode cX7_init 10 = .ok (.bipush 16, 2) := dk_16 (a := 16) (by decide +kernel) (by decide +kernel)
theorem dX7_init_12 : decode cX7_init 12 = .ok (.newarray .int, 2) := dk_188_10 (by decide +kernel)
theorem dX7_init_14 : decode cX7_init 14 = .ok (.putfield 15, 3) := dk_181 (a := 0) (b := 15) (by decide +kernel) rfl
theorem dX7_init_17 : decode cX7_init 17 = .ok (.aload_n 0, 1) := dk_42 (by decide +kernel)
theorem dX7_init_18 : decode cX7_init 18 = .ok (.bipush 16, 2) := dk_16 (a := 16) (by decide +kernel) (by decide +kernel)
theorem dX7_init_20 : decode cX7_init 20 = .ok (.newarray .int, 2) := dk_188_10 (by decide +kernel)
theorem dX7_init_22 : decode cX7_init 22 = .ok (.putfield 19, 3) := dk_181 (a := 0) (b := 19) (by decide +kernel) rfl
theorem dX7_init_25 : decode cX7_init 25 = .ok (.aload_n 0, 1) := dk_42 (by decide +kernel)
theorem dX7_init_26 : decode cX7_init 26 = .ok (.bipush 16, 2) := dk_16 (a := 16) (by decide +kernel) (by decide +kernel)
theorem dX7_init_28 : decode cX7_init 28 = .ok (.newarray .int, 2) := dk_188_10 (by decide +kernel)
theorem dX7_init_30 : decode cX7_init 30 = .ok (.putfield 22, 3) := dk_181 (a := 0) (b := 22) (by decide +kernel) rfl
theorem dX7_init_33 : decode cX7_init 33 = .ok (.aload_n 0, 1) := dk_42 (by decide +kernel)
theorem dX7_init_34 : decode cX7_init 34 = .ok (.bipush 16, 2) := dk_16 (a := 16) (by decide +kernel) (by decide +kernel)
theorem dX7_init_36 : decode cX7_init 36 = .ok (.newarray .int, 2) := dk_188_10 (by decide +kernel)
theorem dX7_init_38 : decode cX7_init 38 = .ok (.putfield 25, 3) := dk_181 (a := 0) (b := 25) (by decide +kernel) rfl
theorem dX7_init_41 : decode cX7_init 41 = .ok (.aload_n 0, 1) := dk_42 (by decide +kernel)
theorem dX7_init_42 : decode cX7_init 42 = .ok (.bipush 16, 2) := dk_16 (a := 16) (by decide +kernel) (by decide +kernel)
theorem dX7_init_44 : decode cX7_init 44 = .ok (.newarray .int, 2) := dk_188_10 (by decide +kernel)
theorem dX7_init_46 : decode cX7_init 46 = .ok (.putfield 28, 3) := dk_181 (a := 0) (b := 28) (by decide +kernel) rfl
theorem dX7_init_49 : decode cX7_init 49 = .ok (.aload_n 0, 1) := dk_42 (by decide +kernel)
theorem dX7_init_50 : decode cX7_init 50 = .ok (.bipush 16, 2) := dk_16 (a := 16) (by decide +kernel) (by decide +kernel)
theorem dX7_init_52 : decode cX7_init 52 = .ok (.newarray .int, 2) := dk_188_10 (by decide +kernel)
theorem dX7_init_54 : decode cX7_init 54 = .ok (.putfield 31, 3) := dk_181 (a := 0) (b := 31) (by decide +kernel) rfl
theorem dX7_init_57 : decode cX7_init 57 = .ok (.aload_n 0, 1) := dk_42 (by decide +kernel)
theorem dX7_init_58 : decode cX7_init 58 = .ok (.bipush 16, 2) := dk_16 (a := 16) (by decide +kernel) (by decide +kernel)
theorem dX7_init_60 : decode cX7_init 60 = .ok (.newarray .int, 2) := dk_188_10 (by decide +kernel)
theorem dX7_init_62 : decode cX7_init 62 = .ok (.putfield 34, 3) := dk_181 (a := 0) (b := 34) (by decide +kernel) rfl
theorem dX7_init_65 : decode cX7_init 65 = .ok (.aload_n 0, 1) := dk_42 (by decide +kernel)
theorem dX7_init_66 : decode cX7_init 66 = .ok (.bipush 16, 2) := dk_16 (a := 16) (by decide +kernel) (by decide +kernel)
theorem dX7_init_68 : decode cX7_init 68 = .ok (.newarray .int, 2) := dk_188_10 (by decide +kernel)
theorem dX7_init_70 : decode cX7_init 70 = .ok (.putfield 37, 3) := dk_181 (a := 0) (b := 37) (by decide +kernel) rfl
theorem dX7_init_73 : decode cX7_init 73 = .ok (.aload_n 0, 1) := dk_42 (by decide +kernel)
theorem dX7_init_74 : decode cX7_init 74 = .ok (.bipush 16, 2) := dk_16 (a := 16) (by decide +kernel) (by decide +kernel)
theorem dX7_init_76 : decode cX7_init 76 = .ok (.newarray .int, 2) := dk_188_10 (by decide +kernel)
theorem dX7_init_78 : decode cX7_init 78 = .ok (.putfield 40, 3) := dk_181 (a := 0) (b := 40) (by decide +kernel) rfl
theorem dX7_init_81 : decode cX7_init 81 = .ok (.return_, 1) := dk_177 (by decide +kernel)
theorem dX7_clear_0 : decode cX7_clear 0 = .ok (.aload_n 0, 1) := dk_42 (by decide +kernel)
theorem dX7_clear_1 : decode cX7_clear 1 = .ok (.iconst 0, 1) := dk_3 (by decide +kernel)
theorem dX7_clear_2 : decode cX7_clear 2 = .ok (.putfield 43, 3) := dk_181 (a := 0) (b := 43) (by decide +kernel) rfl
theorem dX7_clear_5 : decode cX7_clear 5 = .ok (.aload_n 0, 1) := dk_42 (by decide +kernel)
theorem dX7_clear_6 : decode cX7_clear 6 = .ok (.iconst 0, 1) := dk_3 (by decide +kernel)
theorem dX7_clear_7 : decode cX7_clear 7 = .ok (.putfield 46, 3) := dk_181 (a := 0) (b := 46) (by decide +kernel) rfl
theorem dX7_clear_10 : decode cX7_clear 10 = .ok (.aload_n 0, 1) := dk_42 (by decide +kernel)
theorem dX7_clear_11 : decode cX7_clear 11 = .ok (.iconst 3, 1) := dk_6 (by decide +kernel)
theorem dX7_clear_12 : decode cX7_clear 12 = .ok (.putfield 11, 3) := dk_181 (a := 0) (b := 11) (by decide +kernel) rfl
theorem dX7_clear_15 : decode cX7_clear 15 = .ok (.aload_n 0, 1) := dk_42 (by decide +kernel)
theorem dX7_clear_16 : decode cX7_clear 16 = .ok (.getfield 40, 3) := dk_180 (a := 0) (b := 40) (by decide +kernel) rfl
theorem dX7_clear_19 : decode cX7_clear 19 = .ok (.iconst 0, 1) := dk_3 (by decide +kernel)
theorem dX7_clear_20 : decode cX7_clear 20 = .ok (.invokestatic 49, 3) := dk_184 (a := 0) (b := 49) (by decide +kernel) rfl
theorem dX7_clear_23 : decode cX7_clear 23 = .ok (.return_, 1) := dk_177 (by decide +kernel)
theorem dX7_copy_0 : decode cX7_copy 0 = .ok (.aload_n 0, 1) := dk_42 (by decide +kernel)
theorem dX7_copy_1 : decode cX7_copy 1 = .ok (.aload_n 1, 1) := dk_43 (by decide +kernel)
theorem dX7_copy_2 : decode cX7_copy 2 = .ok (.getfield 43, 3) := dk_180 (a := 0) (b := 43) (by decide +kernel) rfl
theorem dX7_copy_5 : decode cX7_copy 5 = .ok (.putfield 43, 3) := dk_181 (a := 0) (b := 43) (by decide +kernel) rfl
theorem dX7_copy_8 : decode cX7_copy 8 = .ok (.aload_n 0, 1) := dk_42 (by decide +kernel)
theorem dX7_copy_9 : decode cX7_copy 9 = .ok (.aload_n 1, 1) := dk_43 (by decide +kernel)
theorem dX7_copy_10 : decode cX7_copy 10 = .ok (.getfield 46, 3) := dk_180 (a := 0) (b := 46) (by decide +kernel) rfl
theorem dX7_copy_13 : decode cX7_copy 13 = .ok (.putfield 46, 3) := dk_181 (a := 0) (b := 46) (by decide +kernel) rfl
theorem dX7_copy_16 : decode cX7_copy 16 = .ok (.aload_n 0, 1) := dk_42 (by decide +kernel)
theorem dX7_copy_17 : decode cX7_copy 17 = .ok (.aload_n 1, 1) := dk_43 (by decide +kernel)
theorem dX7_copy_18 : decode cX7_copy 18 = .ok (.getfield 11, 3) := dk_180 (a := 0) (b := 11) (by decide +kernel) rfl
theorem dX7_copy_21 : decode cX7_copy 21 = .ok (.putfield 11, 3) := dk_181 (a := 0) (b := 11) (by decide +kernel) rfl
theorem dX7_copy_24 : decode cX7_copy 24 = .ok (.aload_n 1, 1) := dk_43 (by decide +kernel)
theorem dX7_copy_25 : decode cX7_copy 25 = .ok (.getfield 15, 3) := dk_180 (a := 0) (b := 15) (by decide +kernel) rfl
theorem dX7_copy_28 : decode cX7_copy 28 = .ok (.iconst 0, 1) := dk_3 (by decide +kernel)
theorem dX7_copy_29 : decode cX7_copy 29 = .ok (.aload_n 0, 1) := dk_42 (by decide +kernel)
theorem dX7_copy_30 : decode cX7_copy 30 = .ok (.getfield 15, 3) := dk_180 (a := 0) (b := 15) (by decide +kernel) rfl
theorem dX7_copy_33 : decode cX7_copy 33 = .ok (.iconst 0, 1) := dk_3 (by decide +kernel)
theorem dX7_copy_34 : decode cX7_copy 34 = .ok (.bipush 16, 2) := dk_16 (a := 16) (by decide +kernel) (by decide +kernel)
theorem dX7_copy_36 : decode cX7_copy 36 = .ok (.invokestatic 55, 3) := dk_184 (a := 0) (b := 55) (by decide +kernel) rfl
theorem dX7_copy_39 : decode cX7_copy 39 = .ok (.aload_n 1, 1) := dk_43 (by decide +kernel)
theorem dX7_copy_40 : decode cX7_copy 40 = .ok (.getfield 19, 3) := dk_180 (a := 0) (b := 19) (by decide +kernel) rfl
theorem dX7_copy_43 : decode cX7_copy 43 = .ok (.iconst 0, 1) := dk_3 (by decide +kernel)
theorem dX7_copy_44 : decode cX7_copy 44 = .ok (.aload_n 0, 1) := dk_42 (by decide +kernel)
theorem dX7_copy_45 : decode cX7_copy 45 = .ok (.getfield 19, 3) := dk_180 (a := 0) (b := 19) (by decide +kernel) rfl
theorem dX7_copy_48 : decode cX7_copy 48 = .ok (.iconst 0, 1) := dk_3 (by decide +kernel)
theorem dX7_copy_49 : decode cX7_copy 49 = .ok (.bipush 16, 2) := dk_16 (a := 16) (by decide +kernel) (by decide +kernel)
theorem dX7_copy_51 : decode cX7_copy 51 = .ok (.invokestatic 55, 3) := dk_184 (a := 0) (b := 55) (by decide +kernel) rfl
theorem dX7_copy_54 : decode cX7_copy 54 = .ok (.aload_n 1, 1) := dk_43 (by decide +kernel)
theorem dX7_copy_55 : decode cX7_copy 55 = .ok (.getfield 22, 3) := dk_180 (a := 0) (b := 22) (by decide +kernel) rfl
theorem dX7_copy_58 : decode cX7_copy 58 = .ok (.iconst 0, 1) := dk_3 (by decide +kernel)
theorem dX7_copy_59 : decode cX7_copy 59 = .ok (.aload_n 0, 1) := dk_42 (by decide +kernel)
theorem dX7_copy_60 : decode cX7_copy 60 = .ok (.getfield 22, 3) := dk_180 (a := 0) (b := 22) (by decide +kernel) rfl
theorem dX7_copy_63 : decode cX7_copy 63 = .ok (.iconst 0, 1) := dk_3 (by decide +kernel)
theorem dX7_copy_64 : decode cX7_copy 64 = .ok (.bipush 16, 2) := dk_16 (a := 16) (by decide +kernel) (by decide +kernel)
theorem dX7_copy_66 : decode cX7_copy 66 = .ok (.invokestatic 55, 3) := dk_184 (a := 0) (b := 55) (by decide +kernel) rfl
theorem dX7_copy_69 : decode cX7_copy 69 = .ok (.aload_n 1, 1) := dk_43 (by decide +kernel)
theorem dX7_copy_70 : decode cX7_copy 70 = .ok (.getfield 25, 3) := dk_180 (a := 0) (b := 25) (by decide +kernel) rfl
theorem dX7_copy_73 : decode cX7_copy 73 = .ok (.iconst 0, 1) := dk_3 (by decide +kernel)
theorem dX7_copy_74 : decode cX7_copy 74 = .ok (.aload_n 0, 1) := dk_42 (by decide +kernel)
theorem dX7_copy_75 : decode cX7_copy 75 = .ok (.getfield 25, 3) := dk_180 (a := 0) (b := 25) (by decide +kernel) rfl
theorem dX7_copy_78 : decode cX7_copy 78 = .ok (.iconst 0, 1) := dk_3 (by decide +kernel)
theorem dX7_copy_79 : decode cX7_copy 79 = .ok (.bipush 16, 2) := dk_16 (a := 16) (by decide +kernel) (by decide +kernel)
theorem dX7_copy_81 : decode cX7_copy 81 = .ok (.invokestatic 55, 3) := dk_184 (a := 0) (b := 55) (by decide +kernel) rfl
theorem dX7_copy_84 : decode cX7_copy 84 = .ok (.aload_n 1, 1) := dk_43 (by decide +kernel)
theorem dX7_copy_85 : decode cX7_copy 85 = .ok (.getfield 28, 3) := dk_180 (a := 0) (b := 28) (by decide +kernel) rfl
theorem dX7_copy_88 : decode cX7_copy 88 = .ok (.iconst 0, 1) := dk_3 (by decide +kernel)
theorem dX7_copy_89 : decode cX7_copy 89 = .ok (.aload_n 0, 1) := dk_42 (by decide +kernel)
theorem dX7_copy_90 : decode cX7_copy 90 = .ok (.getfield 28, 3) := dk_180 (a := 0) (b := 28) (by decide +kernel) rfl
theorem dX7_copy_93 : decode cX7_copy 93 = .ok (.iconst 0, 1) := dk_3 (by decide +kernel)
theorem dX7_copy_94 : decode cX7_copy 94 = .ok (.bipush 16, 2) := dk_16 (a := 16) (by decide +kernel) (by decide +kernel)
theorem dX7_copy_96 : decode cX7_copy 96 = .ok (.invokestatic 55, 3) := dk_184 (a := 0) (b := 55) (by decide +kernel) rfl
theorem dX7_copy_99 : decode cX7_copy 99 = .ok (.aload_n 1, 1) := dk_43 (by decide +kernel)
theorem dX7_copy_100 : decode cX7_copy 100 = .ok (.getfield 31, 3) := dk_180 (a := 0) (b := 31) (by decide +kernel) rfl
theorem dX7_copy_103 : decode cX7_copy 103 = .ok (.iconst 0, 1) := dk_3 (by decide +kernel)
theorem dX7_copy_104 : decode cX7_copy 104 = .ok (.aload_n 0, 1) := dk_42 (by decide +kernel)
theorem dX7_copy_105 : decode cX7_copy 105 = .ok (.getfield 31, 3) := dk_180 (a := 0) (b := 31) (by decide +kernel) rfl
theorem dX7_copy_108 : decode cX7_copy 108 = .ok (.iconst 0, 1) := dk_3 (by decide +kernel)
theorem dX7_copy_109 : decode cX7_copy 109 = .ok (.bipush 16, 2) := dk_16 (a := 16) (by decide +kernel) (by decide +kernel)
theorem dX7_copy_111 : decode cX7_copy 111 = .ok (.invokestatic 55, 3) := dk_184 (a := 0) (b := 55) (by decide +kernel) rfl
theorem dX7_copy_114 : decode cX7_copy 114 = .ok (.aload_n 1, 1) := dk_43 (by decide +kernel)
theorem dX7_copy_115 : decode cX7_copy 115 = .ok (.getfield 34, 3) := dk_180 (a := 0) (b := 34) (by decide +kernel) rfl
theorem dX7_copy_118 : decode cX7_copy 118 = .ok (.iconst 0, 1) := dk_3 (by decide +kernel)
theorem dX7_copy_119 : decode cX7_copy 119 = .ok (.aload_n 0, 1) := dk_42 (by decide +kernel)
theorem dX7_copy_120 : decode cX7_copy 120 = .ok (.getfield 34, 3) := dk_180 (a := 0) (b := 34) (by decide +kernel) rfl
theorem dX7_copy_123 : decode cX7_copy 123 = .ok (.iconst 0, 1) := dk_3 (by decide +kernel)
theorem dX7_copy_124 : decode cX7_copy 124 = .ok (.bipush 16, 2) := dk_16 (a := 16) (by decide +kernel) (by decide +kernel)
theorem dX7_copy_126 : decode cX7_copy 126 = .ok (.invokestatic 55, 3) := dk_184 (a := 0) (b := 55) (by decide +kernel) rfl
theorem dX7_copy_129 : decode cX7_copy 129 = .ok (.aload_n 1, 1) := dk_43 (by decide +kernel)
theorem dX7_copy_130 : decode cX7_copy 130 = .ok (.getfield 37, 3) := dk_180 (a := 0) (b := 37) (by decide +kernel) rfl
theorem dX7_copy_133 : decode cX7_copy 133 = .ok (.iconst 0, 1) := dk_3 (by decide +kernel)
theorem dX7_copy_134 : decode cX7_copy 134 = .ok (.aload_n 0, 1) := dk_42 (by decide +kernel)
theorem dX7_copy_135 : decode cX7_copy 135 = .ok (.getfield 37, 3) := dk_180 (a := 0) (b := 37) (by decide +kernel) rfl
theorem dX7_copy_138 : decode cX7_copy 138 = .ok (.iconst 0, 1) := dk_3 (by decide +kernel)
theorem dX7_copy_139 : decode cX7_copy 139 = .ok (.bipush 16, 2) := dk_16 (a := 16) (by decide +kernel) (by decide +kernel)
theorem dX7_copy_141 : decode cX7_copy 141 = .ok (.invokestatic 55, 3) := dk_184 (a := 0) (b := 55) (by decide +kernel) rfl
theorem dX7_copy_144 : decode cX7_copy 144 = .ok (.aload_n 1, 1) := dk_43 (by decide +kernel)
theorem dX7_copy_145 : decode cX7_copy 145 = .ok (.getfield 40, 3) := dk_180 (a := 0) (b := 40) (by decide +kernel) rfl
theorem dX7_copy_148 : decode cX7_copy 148 = .ok (.iconst 0, 1) := dk_3 (by decide +kernel)
theorem dX7_copy_149 : decode cX7_copy 149 = .ok (.aload_n 0, 1) := dk_42 (by decide +kernel)
theorem dX7_copy_150 : decode cX7_copy 150 = .ok (.getfield 40, 3) := dk_180 (a := 0) (b := 40) (by decide +kernel) rfl
theorem dX7_copy_153 : decode cX7_copy 153 = .ok (.iconst 0, 1) := dk_3 (by decide +kernel)
theorem dX7_copy_154 : decode cX7_copy 154 = .ok (.bipush 16, 2) := dk_16 (a := 16) (by decide +kernel) (by decide +kernel)
theorem dX7_copy_156 : decode cX7_copy 156 = .ok (.invokestatic 55, 3) := dk_184 (a := 0) (b := 55) (by decide +kernel) rfl
theorem dX7_copy_159 : decode cX7_copy 159 = .ok (.return_, 1) := dk_177 (by decide +kernel)
theorem dX7_has_0 : decode cX7_has 0 = .ok (.iload_n 1, 1) := dk_27 (by decide +kernel)
theorem dX7_has_1 : decode cX7_has 1 = .ok (.ifCond .lt 15, 3) := dk_155 (a := 0) (b := 15) (by decide +kernel) (by decide +kernel)
theorem dX7_has_4 : decode cX7_has 4 = .ok (.iload_n 1, 1) := dk_27 (by decide +kernel)
theorem dX7_has_5 : decode cX7_has 5 = .ok (.aload_n 0, 1) := dk_42 (by decide +kernel)
theorem dX7_has_6 : decode cX7_has 6 = .ok (.getfield 43, 3) := dk_180 (a := 0) (b := 43) (by decide +kernel) rfl
theorem dX7_has_9 : decode cX7_has 9 = .ok (.if_icmp .ge 7, 3) := dk_162 (a := 0) (b := 7) (by decide +kernel) (by decide +kernel)
theorem dX7_has_12 : decode cX7_has 12 = .ok (.iconst 1, 1) := dk_4 (by decide +kernel)
theorem dX7_has_13 : decode cX7_has 13 = .ok (.goto 4, 3) := dk_167 (a := 0) (b := 4) (by decide +kernel) (by decide +kernel)
theorem dX7_has_16 : decode cX7_has 16 = .ok (.iconst 0, 1) := dk_3 (by decide +kernel)
theorem dX7_has_17 : decode cX7_has 17 = .ok (.ireturn, 1) := dk_172 (by decide +kernel)
theorem dX7_hasPair_0 : decode cX7_hasPair 0 = .ok (.aload_n 0, 1) := dk_42 (by decide +kernel)
theorem dX7_hasPair_1 : decode cX7_hasPair 1 = .ok (.iload_n 1, 1) := dk_27 (by decide +kernel)
theorem dX7_hasPair_2 : decode cX7_hasPair 2 = .ok (.invokevirtual 61, 3) := dk_182 (a := 0) (b := 61) (by decide +kernel) rfl
theorem dX7_hasPair_5 : decode cX7_hasPair 5 = .ok (.ifCond .eq 20, 3) := dk_153 (a := 0) (b := 20) (by decide +kernel) (by decide +kernel)
theorem dX7_hasPair_8 : decode cX7_hasPair 8 = .ok (.aload_n 0, 1) := dk_42 (by decide +kernel)
theorem dX7_hasPair_9 : decode cX7_hasPair 9 = .ok (.iload_n 2, 1) := dk_28 (by decide +kernel)
theorem dX7_hasPair_10 : decode cX7_hasPair 10 = .ok (.invokevirtual 61, 3) := dk_182 (a := 0) (b := 61) (by decide +kernel) rfl
theorem dX7_hasPair_13 : decode cX7_hasPair 13 = .ok (.ifCond .eq 12, 3) := dk_153 (a := 0) (b := 12) (by decide +kernel) (by decide +kernel)
theorem dX7_hasPair_16 : decode cX7_hasPair 16 = .ok (.iload_n 1, 1) := dk_27 (by decide +kernel)
theorem dX7_hasPair_17 : decode cX7_hasPair 17 = .ok (.iload_n 2, 1) := dk_28 (by decide +kernel)
theorem dX7_hasPair_18 : decode cX7_hasPair 18 = .ok (.if_icmp .eq 7, 3) := dk_159 (a := 0) (b := 7) (by decide +kernel) (by decide +kernel)
theorem dX7_hasPair_21 : decode cX7_hasPair 21 = .ok (.iconst 1, 1) := dk_4 (by decide +kernel)
theorem dX7_hasPair_22 : decode cX7_hasPair 22 = .ok (.goto 4, 3) := dk_167 (a := 0) (b := 4) (by decide +kernel) (by decide +kernel)
theorem dX7_hasPair_25 : decode cX7_hasPair 25 = .ok (.iconst 0, 1) := dk_3 (by decide +kernel)
theorem dX7_hasPair_26 : decode cX7_hasPair 26 = .ok (.ireturn, 1) := dk_172 (by decide +kernel)
theorem dX7_minutes_0 : decode cX7_minutes 0 = .ok (.aload_n 0, 1) := dk_42 (by decide +kernel)
theorem dX7_minutes_1 : decode cX7_minutes 1 = .ok (.getfield 15, 3) := dk_180 (a := 0) (b := 15) (by decide +kernel) rfl
theorem dX7_minutes_4 : decode cX7_minutes 4 = .ok (.iload_n 1, 1) := dk_27 (by decide +kernel)
theorem dX7_minutes_5 : decode cX7_minutes 5 = .ok (.iaload, 1) := dk_46 (by decide +kernel)
theorem dX7_minutes_6 : decode cX7_minutes 6 = .ok (.aload_n 0, 1) := dk_42 (by decide +kernel)
theorem dX7_minutes_7 : decode cX7_minutes 7 = .ok (.getfield 15, 3) := dk_180 (a := 0) (b := 15) (by decide +kernel) rfl
theorem dX7_minutes_10 : decode cX7_minutes 10 = .ok (.iload_n 2, 1) := dk_28 (by decide +kernel)
theorem dX7_minutes_11 : decode cX7_minutes 11 = .ok (.iaload, 1) := dk_46 (by decide +kernel)
theorem dX7_minutes_12 : decode cX7_minutes 12 = .ok (.isub, 1) := dk_100 (by decide +kernel)
theorem dX7_minutes_13 : decode cX7_minutes 13 = .ok (.invokestatic 65, 3) := dk_184 (a := 0) (b := 65) (by decide +kernel) rfl
theorem dX7_minutes_16 : decode cX7_minutes 16 = .ok (.aload_n 0, 1) := dk_42 (by decide +kernel)
theorem dX7_minutes_17 : decode cX7_minutes 17 = .ok (.getfield 19, 3) := dk_180 (a := 0) (b := 19) (by decide +kernel) rfl
theorem dX7_minutes_20 : decode cX7_minutes 20 = .ok (.iload_n 1, 1) := dk_27 (by decide +kernel)
theorem dX7_minutes_21 : decode cX7_minutes 21 = .ok (.iaload, 1) := dk_46 (by decide +kernel)
theorem dX7_minutes_22 : decode cX7_minutes 22 = .ok (.aload_n 0, 1) := dk_42 (by decide +kernel)
theorem dX7_minutes_23 : decode cX7_minutes 23 = .ok (.getfield 19, 3) := dk_180 (a := 0) (b := 19) (by decide +kernel) rfl
theorem dX7_minutes_26 : decode cX7_minutes 26 = .ok (.iload_n 2, 1) := dk_28 (by decide +kernel)
theorem dX7_minutes_27 : decode cX7_minutes 27 = .ok (.iaload, 1) := dk_46 (by decide +kernel)
theorem dX7_minutes_28 : decode cX7_minutes 28 = .ok (.isub, 1) := dk_100 (by decide +kernel)
theorem dX7_minutes_29 : decode cX7_minutes 29 = .ok (.invokestatic 65, 3) := dk_184 (a := 0) (b := 65) (by decide +kernel) rfl
theorem dX7_minutes_32 : decode cX7_minutes 32 = .ok (.iadd, 1) := dk_96 (by decide +kernel)
theorem dX7_minutes_33 : decode cX7_minutes 33 = .ok (.ireturn, 1) := dk_172 (by decide +kernel)
theorem dX7_isThere_0 : decode cX7_isThere 0 = .ok (.iload_n 2, 1) := dk_28 (by decide +kernel)
theorem dX7_isThere_1 : decode cX7_isThere 1 = .ok (.aload_n 0, 1) := dk_42 (by decide +kernel)
theorem dX7_isThere_2 : decode cX7_isThere 2 = .ok (.getfield 34, 3) := dk_180 (a := 0) (b := 34) (by decide +kernel) rfl
theorem dX7_isThere_5 : decode cX7_isThere 5 = .ok (.iload_n 1, 1) := dk_27 (by decide +kernel)
theorem dX7_isThere_6 : decode cX7_isThere 6 = .ok (.iaload, 1) := dk_46 (by decide +kernel)
theorem dX7_isThere_7 : decode cX7_isThere 7 = .ok (.if_icmp .lt 7, 3) := dk_161 (a := 0) (b := 7) (by decide +kernel) (by decide +kernel)
theorem dX7_isThere_10 : decode cX7_isThere 10 = .ok (.iconst 1, 1) := dk_4 (by decide +kernel)
theorem dX7_isThere_11 : decode cX7_isThere 11 = .ok (.goto 4, 3) := dk_167 (a := 0) (b := 4) (by decide +kernel) (by decide +kernel)
theorem dX7_isThere_14 : decode cX7_isThere 14 = .ok (.iconst 0, 1) := dk_3 (by decide +kernel)
theorem dX7_isThere_15 : decode cX7_isThere 15 = .ok (.ireturn, 1) := dk_172 (by decide +kernel)
theorem dX7_isNew_0 : decode cX7_isNew 0 = .ok (.iload_n 2, 1) := dk_28 (by decide +kernel)
theorem dX7_isNew_1 : decode cX7_isNew 1 = .ok (.aload_n 0, 1) := dk_42 (by decide +kernel)
theorem dX7_isNew_2 : decode cX7_isNew 2 = .ok (.getfield 34, 3) := dk_180 (a := 0) (b := 34) (by decide +kernel) rfl
theorem dX7_isNew_5 : decode cX7_isNew 5 = .ok (.iload_n 1, 1) := dk_27 (by decide +kernel)
theorem dX7_isNew_6 : decode cX7_isNew 6 = .ok (.iaload, 1) := dk_46 (by decide +kernel)
theorem dX7_isNew_7 : decode cX7_isNew 7 = .ok (.if_icmp .lt 22, 3) := dk_161 (a := 0) (b := 22) (by decide +kernel) (by decide +kernel)
theorem dX7_isNew_10 : decode cX7_isNew 10 = .ok (.iload_n 2, 1) := dk_28 (by decide +kernel)
theorem dX7_isNew_11 : decode cX7_isNew 11 = .ok (.aload_n 0, 1) := dk_42 (by decide +kernel)
theorem dX7_isNew_12 : decode cX7_isNew 12 = .ok (.getfield 34, 3) := dk_180 (a := 0) (b := 34) (by decide +kernel) rfl
theorem dX7_isNew_15 : decode cX7_isNew 15 = .ok (.iload_n 1, 1) := dk_27 (by decide +kernel)
theorem dX7_isNew_16 : decode cX7_isNew 16 = .ok (.iaload, 1) := dk_46 (by decide +kernel)
theorem dX7_isNew_17 : decode cX7_isNew 17 = .ok (.isub, 1) := dk_100 (by decide +kernel)
theorem dX7_isNew_18 : decode cX7_isNew 18 = .ok (.aload_n 0, 1) := dk_42 (by decide +kernel)
theorem dX7_isNew_19 : decode cX7_isNew 19 = .ok (.getfield 46, 3) := dk_180 (a := 0) (b := 46) (by decide +kernel) rfl
theorem dX7_isNew_22 : decode cX7_isNew 22 = .ok (.if_icmp .gt 7, 3) := dk_163 (a := 0) (b := 7) (by decide +kernel) (by decide +kernel)
theorem dX7_isNew_25 : decode cX7_isNew 25 = .ok (.iconst 1, 1) := dk_4 (by decide +kernel)
theorem dX7_isNew_26 : decode cX7_isNew 26 = .ok (.goto 4, 3) := dk_167 (a := 0) (b := 4) (by decide +kernel) (by decide +kernel)
theorem dX7_isNew_29 : decode cX7_isNew 29 = .ok (.iconst 0, 1) := dk_3 (by decide +kernel)
theorem dX7_isNew_30 : decode cX7_isNew 30 = .ok (.ireturn, 1) := dk_172 (by decide +kernel)
theorem dX7_waits_0 : decode cX7_waits 0 = .ok (.aload_n 0, 1) := dk_42 (by decide +kernel)
theorem dX7_waits_1 : decode cX7_waits 1 = .ok (.getfield 37, 3) := dk_180 (a := 0) (b := 37) (by decide +kernel) rfl
theorem dX7_waits_4 : decode cX7_waits 4 = .ok (.iload_n 1, 1) := dk_27 (by decide +kernel)
theorem dX7_waits_5 : decode cX7_waits 5 = .ok (.iaload, 1) := dk_46 (by decide +kernel)
theorem dX7_waits_6 : decode cX7_waits 6 = .ok (.ifCond .le 24, 3) := dk_158 (a := 0) (b := 24) (by decide +kernel) (by decide +kernel)
theorem dX7_waits_9 : decode cX7_waits 9 = .ok (.iload_n 2, 1) := dk_28 (by decide +kernel)
theorem dX7_waits_10 : decode cX7_waits 10 = .ok (.aload_n 0, 1) := dk_42 (by decide +kernel)
theorem dX7_waits_11 : decode cX7_waits 11 = .ok (.getfield 34, 3) := dk_180 (a := 0) (b := 34) (by decide +kernel) rfl
theorem dX7_waits_14 : decode cX7_waits 14 = .ok (.iload_n 1, 1) := dk_27 (by decide +kernel)
theorem dX7_waits_15 : decode cX7_waits 15 = .ok (.iaload, 1) := dk_46 (by decide +kernel)
theorem dX7_waits_16 : decode cX7_waits 16 = .ok (.isub, 1) := dk_100 (by decide +kernel)
theorem dX7_waits_17 : decode cX7_waits 17 = .ok (.aload_n 0, 1) := dk_42 (by decide +kernel)
theorem dX7_waits_18 : decode cX7_waits 18 = .ok (.getfield 37, 3) := dk_180 (a := 0) (b := 37) (by decide +kernel) rfl
theorem dX7_waits_21 : decode cX7_waits 21 = .ok (.iload_n 1, 1) := dk_27 (by decide +kernel)
theorem dX7_waits_22 : decode cX7_waits 22 = .ok (.iaload, 1) := dk_46 (by decide +kernel)
theorem dX7_waits_23 : decode cX7_waits 23 = .ok (.if_icmp .gt 7, 3) := dk_163 (a := 0) (b := 7) (by decide +kernel) (by decide +kernel)
theorem dX7_waits_26 : decode cX7_waits 26 = .ok (.iconst 1, 1) := dk_4 (by decide +kernel)
theorem dX7_waits_27 : decode cX7_waits 27 = .ok (.goto 4, 3) := dk_167 (a := 0) (b := 4) (by decide +kernel) (by decide +kernel)
theorem dX7_waits_30 : decode cX7_waits 30 = .ok (.iconst 0, 1) := dk_3 (by decide +kernel)
theorem dX7_waits_31 : decode cX7_waits 31 = .ok (.ireturn, 1) := dk_172 (by decide +kernel)
theorem dX8_init_0 : decode cX8_init 0 = .ok (.aload_n 0, 1) := dk_42 (by decide +kernel)
theorem dX8_init_1 : decode cX8_init 1 = .ok (.invokespecial 5, 3) := dk_183 (a := 0) (b := 5) (by decide +kernel) rfl
theorem dX8_init_4 : decode cX8_init 4 = .ok (.aload_n 0, 1) := dk_42 (by decide +kernel)
theorem dX8_init_5 : decode cX8_init 5 = .ok (.bipush 16, 2) := dk_16 (a := 16) (by decide +kernel) (by decide +kernel)
theorem dX8_init_7 : decode cX8_init 7 = .ok (.newarray .int, 2) := dk_188_10 (by decide +kernel)
theorem dX8_init_9 : decode cX8_init 9 = .ok (.putfield 11, 3) := dk_181 (a := 0) (b := 11) (by decide +kernel) rfl
theorem dX8_init_12 : decode cX8_init 12 = .ok (.aload_n 0, 1) := dk_42 (by decide +kernel)
theorem dX8_init_13 : decode cX8_init 13 = .ok (.iconst (-1), 1) := dk_2 (by decide +kernel)
theorem dX8_init_14 : decode cX8_init 14 = .ok (.putfield 15, 3) := dk_181 (a := 0) (b := 15) (by decide +kernel) rfl
theorem dX8_init_17 : decode cX8_init 17 = .ok (.aload_n 0, 1) := dk_42 (by decide +kernel)
theorem dX8_init_18 : decode cX8_init 18 = .ok (.iconst (-1), 1) := dk_2 (by decide +kernel)
theorem dX8_init_19 : decode cX8_init 19 = .ok (.putfield 19, 3) := dk_181 (a := 0) (b := 19) (by decide +kernel) rfl
theorem dX8_init_22 : decode cX8_init 22 = .ok (.aload_n 0, 1) := dk_42 (by decide +kernel)
theorem dX8_init_23 : decode cX8_init 23 = .ok (.bipush 13, 2) := dk_16 (a := 13) (by decide +kernel) (by decide +kernel)
theorem dX8_init_25 : decode cX8_init 25 = .ok (.newarray .int, 2) := dk_188_10 (by decide +kernel)
theorem dX8_init_27 : decode cX8_init 27 = .ok (.putfield 22, 3) := dk_181 (a := 0) (b := 22) (by decide +kernel) rfl
theorem dX8_init_30 : decode cX8_init 30 = .ok (.aload_n 0, 1) := dk_42 (by decide +kernel)
theorem dX8_init_31 : decode cX8_init 31 = .ok (.bipush 13, 2) := dk_16 (a := 13) (by decide +kernel) (by decide +kernel)
theorem dX8_init_33 : decode cX8_init 33 = .ok (.newarray .int, 2) := dk_188_10 (by decide +kernel)
theorem dX8_init_35 : decode cX8_init 35 = .ok (.putfield 25, 3) := dk_181 (a := 0) (b := 25) (by decide +kernel) rfl
theorem dX8_init_38 : decode cX8_init 38 = .ok (.aload_n 0, 1) := dk_42 (by decide +kernel)
theorem dX8_init_39 : decode cX8_init 39 = .ok (.bipush 13, 2) := dk_16 (a := 13) (by decide +kernel) (by decide +kernel)
theorem dX8_init_41 : decode cX8_init 41 = .ok (.newarray .int, 2) := dk_188_10 (by decide +kernel)
theorem dX8_init_43 : decode cX8_init 43 = .ok (.putfield 28, 3) := dk_181 (a := 0) (b := 28) (by decide +kernel) rfl
theorem dX8_init_46 : decode cX8_init 46 = .ok (.aload_n 0, 1) := dk_42 (by decide +kernel)
theorem dX8_init_47 : decode cX8_init 47 = .ok (.sipush 8192, 3) := dk_17 (a := 32) (b := 0) (by decide +kernel) (by decide +kernel)
theorem dX8_init_50 : decode cX8_init 50 = .ok (.newarray .int, 2) := dk_188_10 (by decide +kernel)
theorem dX8_init_52 : decode cX8_init 52 = .ok (.putfield 31, 3) := dk_181 (a := 0) (b := 31) (by decide +kernel) rfl
theorem dX8_init_55 : decode cX8_init 55 = .ok (.aload_n 0, 1) := dk_42 (by decide +kernel)
theorem dX8_init_56 : decode cX8_init 56 = .ok (.sipush 8192, 3) := dk_17 (a := 32) (b := 0) (by decide +kernel) (by decide +kernel)
theorem dX8_init_59 : decode cX8_init 59 = .ok (.newarray .int, 2) := dk_188_10 (by decide +kernel)
theorem dX8_init_61 : decode cX8_init 61 = .ok (.putfield 34, 3) := dk_181 (a := 0) (b := 34) (by decide +kernel) rfl
theorem dX8_init_64 : decode cX8_init 64 = .ok (.return_, 1) := dk_177 (by decide +kernel)
theorem dX8_seek_0 : decode cX8_seek 0 = .ok (.aload_n 0, 1) := dk_42 (by decide +kernel)
theorem dX8_seek_1 : decode cX8_seek 1 = .ok (.getfield 37, 3) := dk_180 (a := 0) (b := 37) (by decide +kernel) rfl
theorem dX8_seek_4 : decode cX8_seek 4 = .ok (.ifCond .eq 20, 3) := dk_153 (a := 0) (b := 20) (by decide +kernel) (by decide +kernel)
theorem dX8_seek_7 : decode cX8_seek 7 = .ok (.aload_n 0, 1) := dk_42 (by decide +kernel)
theorem dX8_seek_8 : decode cX8_seek 8 = .ok (.getfield 15, 3) := dk_180 (a := 0) (b := 15) (by decide +kernel) rfl
theorem dX8_seek_11 : decode cX8_seek 11 = .ok (.iload_n 2, 1) := dk_28 (by decide +kernel)
theorem dX8_seek_12 : decode cX8_seek 12 = .ok (.if_icmp .ne 12, 3) := dk_160 (a := 0) (b := 12) (by decide +kernel) (by decide +kernel)
theorem dX8_seek_15 : decode cX8_seek 15 = .ok (.aload_n 0, 1) := dk_42 (by decide +kernel)
theorem dX8_seek_16 : decode cX8_seek 16 = .ok (.getfield 19, 3) := dk_180 (a := 0) (b := 19) (by decide +kernel) rfl
theorem dX8_seek_19 : decode cX8_seek 19 = .ok (.iload_n 3, 1) := dk_29 (by decide +kernel)
theorem dX8_seek_20 : decode cX8_seek 20 = .ok (.if_icmp .ne 4, 3) := dk_160 (a := 0) (b := 4) (by decide +kernel) (by decide +kernel)
theorem dX8_seek_23 : decode cX8_seek 23 = .ok (.return_, 1) := dk_177 (by decide +kernel)
theorem dX8_seek_24 : decode cX8_seek 24 = .ok (.aload_n 0, 1) := dk_42 (by decide +kernel)
theorem dX8_seek_25 : decode cX8_seek 25 = .ok (.iconst 1, 1) := dk_4 (by decide +kernel)
theorem dX8_seek_26 : decode cX8_seek 26 = .ok (.putfield 37, 3) := dk_181 (a := 0) (b := 37) (by decide +kernel) rfl
theorem dX8_seek_29 : decode cX8_seek 29 = .ok (.aload_n 0, 1) := dk_42 (by decide +kernel)
theorem dX8_seek_30 : decode cX8_seek 30 = .ok (.iload_n 2, 1) := dk_28 (by decide +kernel)
theorem dX8_seek_31 : decode cX8_seek 31 = .ok (.putfield 15, 3) := dk_181 (a := 0) (b := 15) (by decide +kernel) rfl
theorem dX8_seek_34 : decode cX8_seek 34 = .ok (.aload_n 0, 1) := dk_42 (by decide +kernel)
theorem dX8_seek_35 : decode cX8_seek 35 = .ok (.iload_n 3, 1) := dk_29 (by decide +kernel)
theorem dX8_seek_36 : decode cX8_seek 36 = .ok (.putfield 19, 3) := dk_181 (a := 0) (b := 19) (by decide +kernel) rfl
theorem dX8_seek_39 : decode cX8_seek 39 = .ok (.aload_n 0, 1) := dk_42 (by decide +kernel)
theorem dX8_seek_40 : decode cX8_seek 40 = .ok (.iconst (-1), 1) := dk_2 (by decide +kernel)
theorem dX8_seek_41 : decode cX8_seek 41 = .ok (.putfield 41, 3) := dk_181 (a := 0) (b := 41) (by decide +kernel) rfl
theorem dX8_seek_44 : decode cX8_seek 44 = .ok (.aload_n 1, 1) := dk_43 (by decide +kernel)
theorem dX8_seek_45 : decode cX8_seek 45 = .ok (.iload_n 2, 1) := dk_28 (by decide +kernel)
theorem dX8_seek_46 : decode cX8_seek 46 = .ok (.iload_n 3, 1) := dk_29 (by decide +kernel)
theorem dX8_seek_47 : decode cX8_seek 47 = .ok (.invokevirtual 44, 3) := dk_182 (a := 0) (b := 44) (by decide +kernel) rfl
theorem dX8_seek_50 : decode cX8_seek 50 = .ok (.iconst 1, 1) := dk_4 (by decide +kernel)
theorem dX8_seek_51 : decode cX8_seek 51 = .ok (.if_icmp .ne 9, 3) := dk_160 (a := 0) (b := 9) (by decide +kernel) (by decide +kernel)
theorem dX8_seek_54 : decode cX8_seek 54 = .ok (.aload_n 0, 1) := dk_42 (by decide +kernel)
theorem dX8_seek_55 : decode cX8_seek 55 = .ok (.iconst 0, 1) := dk_3 (by decide +kernel)
theorem dX8_seek_56 : decode cX8_seek 56 = .ok (.putfield 41, 3) := dk_181 (a := 0) (b := 41) (by decide +kernel) rfl
theorem dX8_seek_59 : decode cX8_seek 59 = .ok (.return_, 1) := dk_177 (by decide +kernel)
theorem dX8_seek_60 : decode cX8_seek 60 = .ok (.aload_n 1, 1) := dk_43 (by decide +kernel)
theorem dX8_seek_61 : decode cX8_seek 61 = .ok (.iload_n 2, 1) := dk_28 (by decide +kernel)
theorem dX8_seek_62 : decode cX8_seek 62 = .ok (.invokestatic 50, 3) := dk_184 (a := 0) (b := 50) (by decide +kernel) rfl
theorem dX8_seek_65 : decode cX8_seek 65 = .ok (.istore 4, 2) := dk_54 (a := 4) (by decide +kernel)
theorem dX8_seek_67 : decode cX8_seek 67 = .ok (.iload 4, 2) := dk_21 (a := 4) (by decide +kernel)
theorem dX8_seek_69 : decode cX8_seek 69 = .ok (.iload_n 3, 1) := dk_29 (by decide +kernel)
theorem dX8_seek_70 : decode cX8_seek 70 = .ok (.ishr, 1) := dk_122 (by decide +kernel)
theorem dX8_seek_71 : decode cX8_seek 71 = .ok (.iconst 1, 1) := dk_4 (by decide +kernel)
theorem dX8_seek_72 : decode cX8_seek 72 = .ok (.iand, 1) := dk_126 (by decide +kernel)
theorem dX8_seek_73 : decode cX8_seek 73 = .ok (.ifCond .ne 4, 3) := dk_154 (a := 0) (b := 4) (by decide +kernel) (by decide +kernel)
theorem dX8_seek_76 : decode cX8_seek 76 = .ok (.return_, 1) := dk_177 (by decide +kernel)
theorem dX8_seek_77 : decode cX8_seek 77 = .ok (.aload_n 0, 1) := dk_42 (by decide +kernel)
theorem dX8_seek_78 : decode cX8_seek 78 = .ok (.aload_n 1, 1) := dk_43 (by decide +kernel)
theorem dX8_seek_79 : decode cX8_seek 79 = .ok (.iload_n 2, 1) := dk_28 (by decide +kernel)
theorem dX8_seek_80 : decode cX8_seek 80 = .ok (.iload 4, 2) := dk_21 (a := 4) (by decide +kernel)
theorem dX8_seek_82 : decode cX8_seek 82 = .ok (.iconst 1, 1) := dk_4 (by decide +kernel)
theorem dX8_seek_83 : decode cX8_seek 83 = .ok (.iload_n 3, 1) := dk_29 (by decide +kernel)
theorem dX8_seek_84 : decode cX8_seek 84 = .ok (.ishl, 1) := dk_120 (by decide +kernel)
theorem dX8_seek_85 : decode cX8_seek 85 = .ok (.iconst (-1), 1) := dk_2 (by decide +kernel)
theorem dX8_seek_86 : decode cX8_seek 86 = .ok (.ixor, 1) := dk_130 (by decide +kernel)
theorem dX8_seek_87 : decode cX8_seek 87 = .ok (.iand, 1) := dk_126 (by decide +kernel)
theorem dX8_seek_88 : decode cX8_seek 88 = .ok (.aload_n 1, 1) := dk_43 (by decide +kernel)
theorem dX8_seek_89 : decode cX8_seek 89 = .ok (.getfield 54, 3) := dk_180 (a := 0) (b := 54) (by decide +kernel) rfl
theorem dX8_seek_92 : decode cX8_seek 92 = .ok (.iload_n 2, 1) := dk_28 (by decide +kernel)
theorem dX8_seek_93 : decode cX8_seek 93 = .ok (.iaload, 1) := dk_46 (by decide +kernel)
theorem dX8_seek_94 : decode cX8_seek 94 = .ok (.iconst (-1), 1) := dk_2 (by decide +kernel)
theorem dX8_seek_95 : decode cX8_seek 95 = .ok (.ixor, 1) := dk_130 (by decide +kernel)
theorem dX8_seek_96 : decode cX8_seek 96 = .ok (.iand, 1) := dk_126 (by decide +kernel)
theorem dX8_seek_97 : decode cX8_seek 97 = .ok (.invokevirtual 57, 3) := dk_182 (a := 0) (b := 57) (by decide +kernel) rfl
theorem dX8_seek_100 : decode cX8_seek 100 = .ok (.aload_n 0, 1) := dk_42 (by decide +kernel)
theorem dX8_seek_101 : decode cX8_seek 101 = .ok (.aload_n 1, 1) := dk_43 (by decide +kernel)
theorem dX8_seek_102 : decode cX8_seek 102 = .ok (.iload_n 2, 1) := dk_28 (by decide +kernel)
theorem dX8_seek_103 : decode cX8_seek 103 = .ok (.iload_n 3, 1) := dk_29 (by decide +kernel)
theorem dX8_seek_104 : decode cX8_seek 104 = .ok (.invokevirtual 61, 3) := dk_182 (a := 0) (b := 61) (by decide +kernel) rfl
theorem dX8_seek_107 : decode cX8_seek 107 = .ok (.return_, 1) := dk_177 (by decide +kernel)
theorem dX8_everyoneToKnow_0 : decode cX8_everyoneToKnow 0 = .ok (.aload_n 0, 1) := dk_42 (by decide +kernel)
theorem dX8_everyoneToKnow_1 : decode cX8_everyoneToKnow 1 = .ok (.getfield 54, 3) := dk_180 (a := 0) (b := 54) (by decide +kernel) rfl
theorem dX8_everyoneToKnow_4 : decode cX8_everyoneToKnow 4 = .ok (.iload_n 1, 1) := dk_27 (by decide +kernel)
theorem dX8_everyoneToKnow_5 : decode cX8_everyoneToKnow 5 = .ok (.iaload, 1) := dk_46 (by decide +kernel)
theorem dX8_everyoneToKnow_6 : decode cX8_everyoneToKnow 6 = .ok (.istore_n 2, 1) := dk_61 (by decide +kernel)
theorem dX8_everyoneToKnow_7 : decode cX8_everyoneToKnow 7 = .ok (.iconst 0, 1) := dk_3 (by decide +kernel)
theorem dX8_everyoneToKnow_8 : decode cX8_everyoneToKnow 8 = .ok (.istore_n 3, 1) := dk_62 (by decide +kernel)
theorem dX8_everyoneToKnow_9 : decode cX8_everyoneToKnow 9 = .ok (.iload_n 3, 1) := dk_29 (by decide +kernel)
theorem dX8_everyoneToKnow_10 : decode cX8_everyoneToKnow 10 = .ok (.bipush 16, 2) := dk_16 (a := 16) (by decide +kernel) (by decide +kernel)
theorem dX8_everyoneToKnow_12 : decode cX8_everyoneToKnow 12 = .ok (.if_icmp .ge 110, 3) := dk_162 (a := 0) (b := 110) (by decide +kernel) (by decide +kernel)
theorem dX8_everyoneToKnow_15 : decode cX8_everyoneToKnow 15 = .ok (.iload_n 2, 1) := dk_28 (by decide +kernel)
theorem dX8_everyoneToKnow_16 : decode cX8_everyoneToKnow 16 = .ok (.istore 4, 2) := dk_54 (a := 4) (by decide +kernel)
theorem dX8_everyoneToKnow_18 : decode cX8_everyoneToKnow 18 = .ok (.iconst 0, 1) := dk_3 (by decide +kernel)
theorem dX8_everyoneToKnow_19 : decode cX8_everyoneToKnow 19 = .ok (.istore 5, 2) := dk_54 (a := 5) (by decide +kernel)
theorem dX8_everyoneToKnow_21 : decode cX8_everyoneToKnow 21 = .ok (.iload 5, 2) := dk_21 (a := 5) (by decide +kernel)
theorem dX8_everyoneToKnow_23 : decode cX8_everyoneToKnow 23 = .ok (.aload_n 0, 1) := dk_42 (by decide +kernel)
theorem dX8_everyoneToKnow_24 : decode cX8_everyoneToKnow 24 = .ok (.getfield 64, 3) := dk_180 (a := 0) (b := 64) (by decide +kernel) rfl
