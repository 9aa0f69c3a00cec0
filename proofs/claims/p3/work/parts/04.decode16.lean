theorem dX10_readHouse_199 : decode cX10_readHouse 199 = .ok (.aload_n 0, 1) := by decide +kernel
theorem dX10_readHouse_200 : decode cX10_readHouse 200 = .ok (.getfield 34, 3) := by decide +kernel
theorem dX10_readHouse_203 : decode cX10_readHouse 203 = .ok (.iconst 0, 1) := by decide +kernel
theorem dX10_readHouse_204 : decode cX10_readHouse 204 = .ok (.dup2, 1) := by decide +kernel
theorem dX10_readHouse_205 : decode cX10_readHouse 205 = .ok (.iaload, 1) := by decide +kernel
theorem dX10_readHouse_206 : decode cX10_readHouse 206 = .ok (.iconst 1, 1) := by decide +kernel
theorem dX10_readHouse_207 : decode cX10_readHouse 207 = .ok (.iadd, 1) := by decide +kernel
theorem dX10_readHouse_208 : decode cX10_readHouse 208 = .ok (.iastore, 1) := by decide +kernel
theorem dX10_readHouse_209 : decode cX10_readHouse 209 = .ok (.return_, 1) := by decide +kernel
theorem dX10_readKnow_0 : decode cX10_readKnow 0 = .ok (.aload_n 0, 1) := by decide +kernel
theorem dX10_readKnow_1 : decode cX10_readKnow 1 = .ok (.iconst 0, 1) := by decide +kernel
theorem dX10_readKnow_2 : decode cX10_readKnow 2 = .ok (.aload_n 0, 1) := by decide +kernel
theorem dX10_readKnow_3 : decode cX10_readKnow 3 = .ok (.getfield 34, 3) := by decide +kernel
theorem dX10_readKnow_6 : decode cX10_readKnow 6 = .ok (.iconst 0, 1) := by decide +kernel
theorem dX10_readKnow_7 : decode cX10_readKnow 7 = .ok (.iaload, 1) := by decide +kernel
theorem dX10_readKnow_8 : decode cX10_readKnow 8 = .ok (.iconst 1, 1) := by decide +kernel
theorem dX10_readKnow_9 : decode cX10_readKnow 9 = .ok (.isub, 1) := by decide +kernel
theorem dX10_readKnow_10 : decode cX10_readKnow 10 = .ok (.invokevirtual 180, 3) := by decide +kernel
theorem dX10_readKnow_13 : decode cX10_readKnow 13 = .ok (.istore_n 1, 1) := by decide +kernel
theorem dX10_readKnow_14 : decode cX10_readKnow 14 = .ok (.aload_n 0, 1) := by decide +kernel
theorem dX10_readKnow_15 : decode cX10_readKnow 15 = .ok (.invokevirtual 148, 3) := by decide +kernel
theorem dX10_readKnow_18 : decode cX10_readKnow 18 = .ok (.ifCond .eq 24, 3) := by decide +kernel
theorem dX10_readKnow_21 : decode cX10_readKnow 21 = .ok (.aload_n 0, 1) := by decide +kernel
theorem dX10_readKnow_22 : decode cX10_readKnow 22 = .ok (.getfield 125, 3) := by decide +kernel
theorem dX10_readKnow_25 : decode cX10_readKnow 25 = .ok (.iconst 2, 1) := by decide +kernel
theorem dX10_readKnow_26 : decode cX10_readKnow 26 = .ok (.if_icmp .ne 16, 3) := by decide +kernel
theorem dX10_readKnow_29 : decode cX10_readKnow 29 = .ok (.aload_n 0, 1) := by decide +kernel
theorem dX10_readKnow_30 : decode cX10_readKnow 30 = .ok (.getfield 136, 3) := by decide +kernel
theorem dX10_readKnow_33 : decode cX10_readKnow 33 = .ok (.iload_n 1, 1) := by decide +kernel
theorem dX10_readKnow_34 : decode cX10_readKnow 34 = .ok (.if_icmp .ne 8, 3) := by decide +kernel
theorem dX10_readKnow_37 : decode cX10_readKnow 37 = .ok (.aload_n 0, 1) := by decide +kernel
theorem dX10_readKnow_38 : decode cX10_readKnow 38 = .ok (.iconst 2, 1) := by decide +kernel
theorem dX10_readKnow_39 : decode cX10_readKnow 39 = .ok (.invokevirtual 172, 3) := by decide +kernel
theorem dX10_readKnow_42 : decode cX10_readKnow 42 = .ok (.aload_n 0, 1) := by decide +kernel
theorem dX10_readKnow_43 : decode cX10_readKnow 43 = .ok (.iconst 0, 1) := by decide +kernel
theorem dX10_readKnow_44 : decode cX10_readKnow 44 = .ok (.aload_n 0, 1) := by decide +kernel
theorem dX10_readKnow_45 : decode cX10_readKnow 45 = .ok (.getfield 34, 3) := by decide +kernel
theorem dX10_readKnow_48 : decode cX10_readKnow 48 = .ok (.iconst 0, 1) := by decide +kernel
theorem dX10_readKnow_49 : decode cX10_readKnow 49 = .ok (.iaload, 1) := by decide +kernel
theorem dX10_readKnow_50 : decode cX10_readKnow 50 = .ok (.iconst 1, 1) := by decide +kernel
theorem dX10_readKnow_51 : decode cX10_readKnow 51 = .ok (.isub, 1) := by decide +kernel
theorem dX10_readKnow_52 : decode cX10_readKnow 52 = .ok (.invokevirtual 180, 3) := by decide +kernel
theorem dX10_readKnow_55 : decode cX10_readKnow 55 = .ok (.istore_n 2, 1) := by decide +kernel
theorem dX10_readKnow_56 : decode cX10_readKnow 56 = .ok (.aload_n 0, 1) := by decide +kernel
theorem dX10_readKnow_57 : decode cX10_readKnow 57 = .ok (.invokevirtual 148, 3) := by decide +kernel
theorem dX10_readKnow_60 : decode cX10_readKnow 60 = .ok (.ifCond .ne 4, 3) := by decide +kernel
theorem dX10_readKnow_63 : decode cX10_readKnow 63 = .ok (.return_, 1) := by decide +kernel
theorem dX10_readKnow_64 : decode cX10_readKnow 64 = .ok (.aload_n 0, 1) := by decide +kernel
theorem dX10_readKnow_65 : decode cX10_readKnow 65 = .ok (.getfield 34, 3) := by decide +kernel
theorem dX10_readKnow_68 : decode cX10_readKnow 68 = .ok (.bipush 10, 2) := by decide +kernel
theorem dX10_readKnow_70 : decode cX10_readKnow 70 = .ok (.bipush 9, 2) := by decide +kernel
theorem dX10_readKnow_72 : decode cX10_readKnow 72 = .ok (.iload_n 1, 1) := by decide +kernel
theorem dX10_readKnow_73 : decode cX10_readKnow 73 = .ok (.imul, 1) := by decide +kernel
theorem dX10_readKnow_74 : decode cX10_readKnow 74 = .ok (.iadd, 1) := by decide +kernel
theorem dX10_readKnow_75 : decode cX10_readKnow 75 = .ok (.bipush 8, 2) := by decide +kernel
theorem dX10_readKnow_77 : decode cX10_readKnow 77 = .ok (.iadd, 1) := by decide +kernel
theorem dX10_readKnow_78 : decode cX10_readKnow 78 = .ok (.dup2, 1) := by decide +kernel
theorem dX10_readKnow_79 : decode cX10_readKnow 79 = .ok (.iaload, 1) := by decide +kernel
theorem dX10_readKnow_80 : decode cX10_readKnow 80 = .ok (.iconst 1, 1) := by decide +kernel
theorem dX10_readKnow_81 : decode cX10_readKnow 81 = .ok (.iload_n 2, 1) := by decide +kernel
theorem dX10_readKnow_82 : decode cX10_readKnow 82 = .ok (.ishl, 1) := by decide +kernel
theorem dX10_readKnow_83 : decode cX10_readKnow 83 = .ok (.ior, 1) := by decide +kernel
theorem dX10_readKnow_84 : decode cX10_readKnow 84 = .ok (.iastore, 1) := by decide +kernel
theorem dX10_readKnow_85 : decode cX10_readKnow 85 = .ok (.aload_n 0, 1) := by decide +kernel
theorem dX10_readKnow_86 : decode cX10_readKnow 86 = .ok (.getfield 34, 3) := by decide +kernel
theorem dX10_readKnow_89 : decode cX10_readKnow 89 = .ok (.bipush 10, 2) := by decide +kernel
theorem dX10_readKnow_91 : decode cX10_readKnow 91 = .ok (.bipush 9, 2) := by decide +kernel
theorem dX10_readKnow_93 : decode cX10_readKnow 93 = .ok (.iload_n 2, 1) := by decide +kernel
theorem dX10_readKnow_94 : decode cX10_readKnow 94 = .ok (.imul, 1) := by decide +kernel
theorem dX10_readKnow_95 : decode cX10_readKnow 95 = .ok (.iadd, 1) := by decide +kernel
theorem dX10_readKnow_96 : decode cX10_readKnow 96 = .ok (.bipush 8, 2) := by decide +kernel
theorem dX10_readKnow_98 : decode cX10_readKnow 98 = .ok (.iadd, 1) := by decide +kernel
theorem dX10_readKnow_99 : decode cX10_readKnow 99 = .ok (.dup2, 1) := by decide +kernel
theorem dX10_readKnow_100 : decode cX10_readKnow 100 = .ok (.iaload, 1) := by decide +kernel
theorem dX10_readKnow_101 : decode cX10_readKnow 101 = .ok (.iconst 1, 1) := by decide +kernel
theorem dX10_readKnow_102 : decode cX10_readKnow 102 = .ok (.iload_n 1, 1) := by decide +kernel
theorem dX10_readKnow_103 : decode cX10_readKnow 103 = .ok (.ishl, 1) := by decide +kernel
theorem dX10_readKnow_104 : decode cX10_readKnow 104 = .ok (.ior, 1) := by decide +kernel
theorem dX10_readKnow_105 : decode cX10_readKnow 105 = .ok (.iastore, 1) := by decide +kernel
theorem dX10_readKnow_106 : decode cX10_readKnow 106 = .ok (.return_, 1) := by decide +kernel
theorem dX10_readPart_0 : decode cX10_readPart 0 = .ok (.aload_n 0, 1) := by decide +kernel
theorem dX10_readPart_1 : decode cX10_readPart 1 = .ok (.ldc 224, 2) := by decide +kernel
theorem dX10_readPart_3 : decode cX10_readPart 3 = .ok (.invokevirtual 162, 3) := by decide +kernel
theorem dX10_readPart_6 : decode cX10_readPart 6 = .ok (.ifCond .eq 7, 3) := by decide +kernel
theorem dX10_readPart_9 : decode cX10_readPart 9 = .ok (.iconst 0, 1) := by decide +kernel
theorem dX10_readPart_10 : decode cX10_readPart 10 = .ok (.goto 56, 3) := by decide +kernel
theorem dX10_readPart_13 : decode cX10_readPart 13 = .ok (.aload_n 0, 1) := by decide +kernel
theorem dX10_readPart_14 : decode cX10_readPart 14 = .ok (.ldc 226, 2) := by decide +kernel
theorem dX10_readPart_16 : decode cX10_readPart 16 = .ok (.invokevirtual 162, 3) := by decide +kernel
theorem dX10_readPart_19 : decode cX10_readPart 19 = .ok (.ifCond .eq 7, 3) := by decide +kernel
theorem dX10_readPart_22 : decode cX10_readPart 22 = .ok (.iconst 1, 1) := by decide +kernel
theorem dX10_readPart_23 : decode cX10_readPart 23 = .ok (.goto 43, 3) := by decide +kernel
theorem dX10_readPart_26 : decode cX10_readPart 26 = .ok (.aload_n 0, 1) := by decide +kernel
theorem dX10_readPart_27 : decode cX10_readPart 27 = .ok (.ldc 228, 2) := by decide +kernel
theorem dX10_readPart_29 : decode cX10_readPart 29 = .ok (.invokevirtual 162, 3) := by decide +kernel
theorem dX10_readPart_32 : decode cX10_readPart 32 = .ok (.ifCond .eq 7, 3) := by decide +kernel
theorem dX10_readPart_35 : decode cX10_readPart 35 = .ok (.iconst 2, 1) := by decide +kernel
theorem dX10_readPart_36 : decode cX10_readPart 36 = .ok (.goto 30, 3) := by decide +kernel
theorem dX10_readPart_39 : decode cX10_readPart 39 = .ok (.aload_n 0, 1) := by decide +kernel
theorem dX10_readPart_40 : decode cX10_readPart 40 = .ok (.ldc 230, 2) := by decide +kernel
theorem dX10_readPart_42 : decode cX10_readPart 42 = .ok (.invokevirtual 162, 3) := by decide +kernel
theorem dX10_readPart_45 : decode cX10_readPart 45 = .ok (.ifCond .eq 7, 3) := by decide +kernel
theorem dX10_readPart_48 : decode cX10_readPart 48 = .ok (.iconst 3, 1) := by decide +kernel
theorem dX10_readPart_49 : decode cX10_readPart 49 = .ok (.goto 17, 3) := by decide +kernel
theorem dX10_readPart_52 : decode cX10_readPart 52 = .ok (.aload_n 0, 1) := by decide +kernel
theorem dX10_readPart_53 : decode cX10_readPart 53 = .ok (.ldc 232, 2) := by decide +kernel
theorem dX10_readPart_55 : decode cX10_readPart 55 = .ok (.invokevirtual 162, 3) := by decide +kernel
theorem dX10_readPart_58 : decode cX10_readPart 58 = .ok (.ifCond .eq 7, 3) := by decide +kernel
theorem dX10_readPart_61 : decode cX10_readPart 61 = .ok (.iconst 4, 1) := by decide +kernel
theorem dX10_readPart_62 : decode cX10_readPart 62 = .ok (.goto 4, 3) := by decide +kernel
theorem dX10_readPart_65 : decode cX10_readPart 65 = .ok (.iconst 5, 1) := by decide +kernel
theorem dX10_readPart_66 : decode cX10_readPart 66 = .ok (.istore_n 2, 1) := by decide +kernel
theorem dX10_readPart_67 : decode cX10_readPart 67 = .ok (.aload_n 0, 1) := by decide +kernel
theorem dX10_readPart_68 : decode cX10_readPart 68 = .ok (.invokevirtual 148, 3) := by decide +kernel
theorem dX10_readPart_71 : decode cX10_readPart 71 = .ok (.ifCond .eq 12, 3) := by decide +kernel
theorem dX10_readPart_74 : decode cX10_readPart 74 = .ok (.iload_n 2, 1) := by decide +kernel
theorem dX10_readPart_75 : decode cX10_readPart 75 = .ok (.iconst 5, 1) := by decide +kernel
theorem dX10_readPart_76 : decode cX10_readPart 76 = .ok (.if_icmp .eq 7, 3) := by decide +kernel
theorem dX10_readPart_79 : decode cX10_readPart 79 = .ok (.aload_n 0, 1) := by decide +kernel
theorem dX10_readPart_80 : decode cX10_readPart 80 = .ok (.invokevirtual 166, 3) := by decide +kernel
theorem dX10_readPart_83 : decode cX10_readPart 83 = .ok (.iload_n 2, 1) := by decide +kernel
theorem dX10_readPart_84 : decode cX10_readPart 84 = .ok (.iconst 5, 1) := by decide +kernel
theorem dX10_readPart_85 : decode cX10_readPart 85 = .ok (.if_icmp .ne 14, 3) := by decide +kernel
theorem dX10_readPart_88 : decode cX10_readPart 88 = .ok (.aload_n 0, 1) := by decide +kernel
theorem dX10_readPart_89 : decode cX10_readPart 89 = .ok (.iconst 0, 1) := by decide +kernel
theorem dX10_readPart_90 : decode cX10_readPart 90 = .ok (.sipush 999, 3) := by decide +kernel
theorem dX10_readPart_93 : decode cX10_readPart 93 = .ok (.invokevirtual 180, 3) := by decide +kernel
theorem dX10_readPart_96 : decode cX10_readPart 96 = .ok (.goto 4, 3) := by decide +kernel
theorem dX10_readPart_99 : decode cX10_readPart 99 = .ok (.iconst 0, 1) := by decide +kernel
theorem dX10_readPart_100 : decode cX10_readPart 100 = .ok (.istore_n 3, 1) := by decide +kernel
theorem dX10_readPart_101 : decode cX10_readPart 101 = .ok (.aload_n 0, 1) := by decide +kernel
theorem dX10_readPart_102 : decode cX10_readPart 102 = .ok (.invokevirtual 148, 3) := by decide +kernel
theorem dX10_readPart_105 : decode cX10_readPart 105 = .ok (.ifCond .ne 4, 3) := by decide +kernel
theorem dX10_readPart_108 : decode cX10_readPart 108 = .ok (.return_, 1) := by decide +kernel
theorem dX10_readPart_109 : decode cX10_readPart 109 = .ok (.sipush 814, 3) := by decide +kernel
theorem dX10_readPart_112 : decode cX10_readPart 112 = .ok (.iconst 3, 1) := by decide +kernel
theorem dX10_readPart_113 : decode cX10_readPart 113 = .ok (.aload_n 0, 1) := by decide +kernel
theorem dX10_readPart_114 : decode cX10_readPart 114 = .ok (.getfield 34, 3) := by decide +kernel
theorem dX10_readPart_117 : decode cX10_readPart 117 = .ok (.iconst 3, 1) := by decide +kernel
theorem dX10_readPart_118 : decode cX10_readPart 118 = .ok (.iaload, 1) := by decide +kernel
theorem dX10_readPart_119 : decode cX10_readPart 119 = .ok (.imul, 1) := by decide +kernel
theorem dX10_readPart_120 : decode cX10_readPart 120 = .ok (.iadd, 1) := by decide +kernel
theorem dX10_readPart_121 : decode cX10_readPart 121 = .ok (.istore 4, 2) := by decide +kernel
theorem dX10_readPart_123 : decode cX10_readPart 123 = .ok (.aload_n 0, 1) := by decide +kernel
theorem dX10_readPart_124 : decode cX10_readPart 124 = .ok (.getfield 34, 3) := by decide +kernel
theorem dX10_readPart_127 : decode cX10_readPart 127 = .ok (.iload 4, 2) := by decide +kernel
theorem dX10_readPart_129 : decode cX10_readPart 129 = .ok (.iload_n 1, 1) := by decide +kernel
theorem dX10_readPart_130 : decode cX10_readPart 130 = .ok (.iastore, 1) := by decide +kernel
theorem dX10_readPart_131 : decode cX10_readPart 131 = .ok (.aload_n 0, 1) := by decide +kernel
theorem dX10_readPart_132 : decode cX10_readPart 132 = .ok (.getfield 34, 3) := by decide +kernel
theorem dX10_readPart_135 : decode cX10_readPart 135 = .ok (.iload 4, 2) := by decide +kernel
theorem dX10_readPart_137 : decode cX10_readPart 137 = .ok (.iconst 1, 1) := by decide +kernel
theorem dX10_readPart_138 : decode cX10_readPart 138 = .ok (.iadd, 1) := by decide +kernel
theorem dX10_readPart_139 : decode cX10_readPart 139 = .ok (.iload_n 2, 1) := by decide +kernel
theorem dX10_readPart_140 : decode cX10_readPart 140 = .ok (.iastore, 1) := by decide +kernel
theorem dX10_readPart_141 : decode cX10_readPart 141 = .ok (.aload_n 0, 1) := by decide +kernel
theorem dX10_readPart_142 : decode cX10_readPart 142 = .ok (.getfield 34, 3) := by decide +kernel
theorem dX10_readPart_145 : decode cX10_readPart 145 = .ok (.iload 4, 2) := by decide +kernel
theorem dX10_readPart_147 : decode cX10_readPart 147 = .ok (.iconst 2, 1) := by decide +kernel
theorem dX10_readPart_148 : decode cX10_readPart 148 = .ok (.iadd, 1) := by decide +kernel
theorem dX10_readPart_149 : decode cX10_readPart 149 = .ok (.iload_n 3, 1) := by decide +kernel
theorem dX10_readPart_150 : decode cX10_readPart 150 = .ok (.iastore, 1) := by decide +kernel
theorem dX10_readPart_151 : decode cX10_readPart 151 = .ok (.aload_n 0, 1) := by decide +kernel
theorem dX10_readPart_152 : decode cX10_readPart 152 = .ok (.getfield 34, 3) := by decide +kernel
theorem dX10_readPart_155 : decode cX10_readPart 155 = .ok (.iconst 3, 1) := by decide +kernel
theorem dX10_readPart_156 : decode cX10_readPart 156 = .ok (.dup2, 1) := by decide +kernel
theorem dX10_readPart_157 : decode cX10_readPart 157 = .ok (.iaload, 1) := by decide +kernel
theorem dX10_readPart_158 : decode cX10_readPart 158 = .ok (.iconst 1, 1) := by decide +kernel
theorem dX10_readPart_159 : decode cX10_readPart 159 = .ok (.iadd, 1) := by decide +kernel
theorem dX10_readPart_160 : decode cX10_readPart 160 = .ok (.iastore, 1) := by decide +kernel
theorem dX10_readPart_161 : decode cX10_readPart 161 = .ok (.return_, 1) := by decide +kernel
theorem dX10_readSum_0 : decode cX10_readSum 0 = .ok (.aload_n 0, 1) := by decide +kernel
theorem dX10_readSum_1 : decode cX10_readSum 1 = .ok (.iload_n 1, 1) := by decide +kernel
theorem dX10_readSum_2 : decode cX10_readSum 2 = .ok (.invokevirtual 234, 3) := by decide +kernel
theorem dX10_readSum_5 : decode cX10_readSum 5 = .ok (.aload_n 0, 1) := by decide +kernel
theorem dX10_readSum_6 : decode cX10_readSum 6 = .ok (.ldc 237, 2) := by decide +kernel
theorem dX10_readSum_8 : decode cX10_readSum 8 = .ok (.invokevirtual 162, 3) := by decide +kernel
theorem dX10_readSum_11 : decode cX10_readSum 11 = .ok (.ifCond .ne 21, 3) := by decide +kernel
theorem dX10_readSum_14 : decode cX10_readSum 14 = .ok (.aload_n 0, 1) := by decide +kernel
theorem dX10_readSum_15 : decode cX10_readSum 15 = .ok (.ldc 239, 2) := by decide +kernel
theorem dX10_readSum_17 : decode cX10_readSum 17 = .ok (.invokevirtual 162, 3) := by decide +kernel
theorem dX10_readSum_20 : decode cX10_readSum 20 = .ok (.ifCond .ne 12, 3) := by decide +kernel
theorem dX10_readSum_23 : decode cX10_readSum 23 = .ok (.aload_n 0, 1) := by decide +kernel
theorem dX10_readSum_24 : decode cX10_readSum 24 = .ok (.ldc 241, 2) := by decide +kernel
theorem dX10_readSum_26 : decode cX10_readSum 26 = .ok (.invokevirtual 162, 3) := by decide +kernel
theorem dX10_readSum_29 : decode cX10_readSum 29 = .ok (.ifCond .eq 43, 3) := by decide +kernel
theorem dX10_readSum_32 : decode cX10_readSum 32 = .ok (.aload_n 0, 1) := by decide +kernel
theorem dX10_readSum_33 : decode cX10_readSum 33 = .ok (.ldc 237, 2) := by decide +kernel
theorem dX10_readSum_35 : decode cX10_readSum 35 = .ok (.invokevirtual 162, 3) := by decide +kernel
theorem dX10_readSum_38 : decode cX10_readSum 38 = .ok (.ifCond .eq 7, 3) := by decide +kernel
theorem dX10_readSum_41 : decode cX10_readSum 41 = .ok (.iconst 1, 1) := by decide +kernel
theorem dX10_readSum_42 : decode cX10_readSum 42 = .ok (.goto 17, 3) := by decide +kernel
theorem dX10_readSum_45 : decode cX10_readSum 45 = .ok (.aload_n 0, 1) := by decide +kernel
theorem dX10_readSum_46 : decode cX10_readSum 46 = .ok (.ldc 239, 2) := by decide +kernel
theorem dX10_readSum_48 : decode cX10_readSum 48 = .ok (.invokevirtual 162, 3) := by decide +kernel
theorem dX10_readSum_51 : decode cX10_readSum 51 = .ok (.ifCond .eq 7, 3) := by decide +kernel
theorem dX10_readSum_54 : decode cX10_readSum 54 = .ok (.iconst 2, 1) := by decide +kernel
theorem dX10_readSum_55 : decode cX10_readSum 55 = .ok (.goto 4, 3) := by decide +kernel
theorem dX10_readSum_58 : decode cX10_readSum 58 = .ok (.iconst 3, 1) := by decide +kernel
theorem dX10_readSum_59 : decode cX10_readSum 59 = .ok (.istore_n 2, 1) := by decide +kernel
theorem dX10_readSum_60 : decode cX10_readSum 60 = .ok (.aload_n 0, 1) := by decide +kernel
theorem dX10_readSum_61 : decode cX10_readSum 61 = .ok (.invokevirtual 166, 3) := by decide +kernel
theorem dX10_readSum_64 : decode cX10_readSum 64 = .ok (.aload_n 0, 1) := by decide +kernel
theorem dX10_readSum_65 : decode cX10_readSum 65 = .ok (.iload_n 2, 1) := by decide +kernel
theorem dX10_readSum_66 : decode cX10_readSum 66 = .ok (.invokevirtual 234, 3) := by decide +kernel
theorem dX10_readSum_69 : decode cX10_readSum 69 = .ok (.goto (-64), 3) := by decide +kernel
theorem dX10_readSum_72 : decode cX10_readSum 72 = .ok (.return_, 1) := by decide +kernel
theorem dX10_readTest_0 : decode cX10_readTest 0 = .ok (.aload_n 0, 1) := by decide +kernel
theorem dX10_readTest_1 : decode cX10_readTest 1 = .ok (.getfield 34, 3) := by decide +kernel
theorem dX10_readTest_4 : decode cX10_readTest 4 = .ok (.iconst 3, 1) := by decide +kernel
theorem dX10_readTest_5 : decode cX10_readTest 5 = .ok (.iaload, 1) := by decide +kernel
theorem dX10_readTest_6 : decode cX10_readTest 6 = .ok (.istore_n 1, 1) := by decide +kernel
theorem dX10_readTest_7 : decode cX10_readTest 7 = .ok (.aload_n 0, 1) := by decide +kernel
theorem dX10_readTest_8 : decode cX10_readTest 8 = .ok (.iconst 0, 1) := by decide +kernel
theorem dX10_readTest_9 : decode cX10_readTest 9 = .ok (.invokevirtual 243, 3) := by decide +kernel
theorem dX10_readTest_12 : decode cX10_readTest 12 = .ok (.aload_n 0, 1) := by decide +kernel
theorem dX10_readTest_13 : decode cX10_readTest 13 = .ok (.aload_n 0, 1) := by decide +kernel
theorem dX10_readTest_14 : decode cX10_readTest 14 = .ok (.ldc 246, 2) := by decide +kernel
theorem dX10_readTest_16 : decode cX10_readTest 16 = .ok (.invokevirtual 162, 3) := by decide +kernel
theorem dX10_readTest_19 : decode cX10_readTest 19 = .ok (.ifCond .eq 7, 3) := by decide +kernel
theorem dX10_readTest_22 : decode cX10_readTest 22 = .ok (.iconst 0, 1) := by decide +kernel
theorem dX10_readTest_23 : decode cX10_readTest 23 = .ok (.goto 30, 3) := by decide +kernel
theorem dX10_readTest_26 : decode cX10_readTest 26 = .ok (.aload_n 0, 1) := by decide +kernel
theorem dX10_readTest_27 : decode cX10_readTest 27 = .ok (.ldc 248, 2) := by decide +kernel
theorem dX10_readTest_29 : decode cX10_readTest 29 = .ok (.invokevirtual 162, 3) := by decide +kernel
theorem dX10_readTest_32 : decode cX10_readTest 32 = .ok (.ifCond .eq 7, 3) := by decide +kernel
theorem dX10_readTest_35 : decode cX10_readTest 35 = .ok (.iconst 1, 1) := by decide +kernel
theorem dX10_readTest_36 : decode cX10_readTest 36 = .ok (.goto 17, 3) := by decide +kernel
theorem dX10_readTest_39 : decode cX10_readTest 39 = .ok (.aload_n 0, 1) := by decide +kernel
theorem dX10_readTest_40 : decode cX10_readTest 40 = .ok (.ldc 250, 2) := by decide +kernel
theorem dX10_readTest_42 : decode cX10_readTest 42 = .ok (.invokevirtual 162, 3) := by decide +kernel
theorem dX10_readTest_45 : decode cX10_readTest 45 = .ok (.ifCond .eq 7, 3) := by decide +kernel
theorem dX10_readTest_48 : decode cX10_readTest 48 = .ok (.iconst 2, 1) := by decide +kernel
theorem dX10_readTest_49 : decode cX10_readTest 49 = .ok (.goto 4, 3) := by decide +kernel
theorem dX10_readTest_52 : decode cX10_readTest 52 = .ok (.iconst (-1), 1) := by decide +kernel
theorem dX10_readTest_53 : decode cX10_readTest 53 = .ok (.invokevirtual 217, 3) := by decide +kernel
theorem dX10_readTest_56 : decode cX10_readTest 56 = .ok (.istore_n 2, 1) := by decide +kernel
theorem dX10_readTest_57 : decode cX10_readTest 57 = .ok (.aload_n 0, 1) := by decide +kernel
theorem dX10_readTest_58 : decode cX10_readTest 58 = .ok (.invokevirtual 148, 3) := by decide +kernel
theorem dX10_readTest_61 : decode cX10_readTest 61 = .ok (.ifCond .eq 8, 3) := by decide +kernel
theorem dX10_readTest_64 : decode cX10_readTest 64 = .ok (.aload_n 0, 1) := by decide +kernel
theorem dX10_readTest_65 : decode cX10_readTest 65 = .ok (.iconst 4, 1) := by decide +kernel
theorem dX10_readTest_66 : decode cX10_readTest 66 = .ok (.invokevirtual 243, 3) := by decide +kernel
theorem dX10_readTest_69 : decode cX10_readTest 69 = .ok (.aload_n 0, 1) := by decide +kernel
theorem dX10_readTest_70 : decode cX10_readTest 70 = .ok (.invokevirtual 148, 3) := by decide +kernel
theorem dX10_readTest_73 : decode cX10_readTest 73 = .ok (.ifCond .ne 4, 3) := by decide +kernel
theorem dX10_readTest_76 : decode cX10_readTest 76 = .ok (.return_, 1) := by decide +kernel
theorem dX10_readTest_77 : decode cX10_readTest 77 = .ok (.sipush 274, 3) := by decide +kernel
theorem dX10_readTest_80 : decode cX10_readTest 80 = .ok (.iconst 3, 1) := by decide +kernel
theorem dX10_readTest_81 : decode cX10_readTest 81 = .ok (.aload_n 0, 1) := by decide +kernel
theorem dX10_readTest_82 : decode cX10_readTest 82 = .ok (.getfield 34, 3) := by decide +kernel
theorem dX10_readTest_85 : decode cX10_readTest 85 = .ok (.iconst 2, 1) := by decide +kernel
theorem dX10_readTest_86 : decode cX10_readTest 86 = .ok (.iaload, 1) := by decide +kernel
theorem dX10_readTest_87 : decode cX10_readTest 87 = .ok (.imul, 1) := by decide +kernel
theorem dX10_readTest_88 : decode cX10_readTest 88 = .ok (.iadd, 1) := by decide +kernel
theorem dX10_readTest_89 : decode cX10_readTest 89 = .ok (.istore_n 3, 1) := by decide +kernel
theorem dX10_readTest_90 : decode cX10_readTest 90 = .ok (.aload_n 0, 1) := by decide +kernel
theorem dX10_readTest_91 : decode cX10_readTest 91 = .ok (.getfield 34, 3) := by decide +kernel
theorem dX10_readTest_94 : decode cX10_readTest 94 = .ok (.iload_n 3, 1) := by decide +kernel
theorem dX10_readTest_95 : decode cX10_readTest 95 = .ok (.iload_n 2, 1) := by decide +kernel
theorem dX10_readTest_96 : decode cX10_readTest 96 = .ok (.iastore, 1) := by decide +kernel
theorem dX10_readTest_97 : decode cX10_readTest 97 = .ok (.aload_n 0, 1) := by decide +kernel
theorem dX10_readTest_98 : decode cX10_readTest 98 = .ok (.getfield 34, 3) := by decide +kernel
theorem dX10_readTest_101 : decode cX10_readTest 101 = .ok (.iload_n 3, 1) := by decide +kernel
theorem dX10_readTest_102 : decode cX10_readTest 102 = .ok (.iconst 1, 1) := by decide +kernel
theorem dX10_readTest_103 : decode cX10_readTest 103 = .ok (.iadd, 1) := by decide +kernel
theorem dX10_readTest_104 : decode cX10_readTest 104 = .ok (.iload_n 1, 1) := by decide +kernel
theorem dX10_readTest_105 : decode cX10_readTest 105 = .ok (.iastore, 1) := by decide +kernel
theorem dX10_readTest_106 : decode cX10_readTest 106 = .ok (.aload_n 0, 1) := by decide +kernel
theorem dX10_readTest_107 : decode cX10_readTest 107 = .ok (.getfield 34, 3) := by decide +kernel
theorem dX10_readTest_110 : decode cX10_readTest 110 = .ok (.iload_n 3, 1) := by decide +kernel
theorem dX10_readTest_111 : decode cX10_readTest 111 = .ok (.iconst 2, 1) := by decide +kernel
theorem dX10_readTest_112 : decode cX10_readTest 112 = .ok (.iadd, 1) := by decide +kernel
theorem dX10_readTest_113 : decode cX10_readTest 113 = .ok (.aload_n 0, 1) := by decide +kernel
theorem dX10_readTest_114 : decode cX10_readTest 114 = .ok (.getfield 34, 3) := by decide +kernel
theorem dX10_readTest_117 : decode cX10_readTest 117 = .ok (.iconst 3, 1) := by decide +kernel
theorem dX10_readTest_118 : decode cX10_readTest 118 = .ok (.iaload, 1) := by decide +kernel
theorem dX10_readTest_119 : decode cX10_readTest 119 = .ok (.iload_n 1, 1) := by decide +kernel
theorem dX10_readTest_120 : decode cX10_readTest 120 = .ok (.isub, 1) := by decide +kernel
theorem dX10_readTest_121 : decode cX10_readTest 121 = .ok (.iastore, 1) := by decide +kernel
theorem dX10_readTest_122 : decode cX10_readTest 122 = .ok (.aload_n 0, 1) := by decide +kernel
theorem dX10_readTest_123 : decode cX10_readTest 123 = .ok (.getfield 34, 3) := by decide +kernel
theorem dX10_readTest_126 : decode cX10_readTest 126 = .ok (.iconst 2, 1) := by decide +kernel
theorem dX10_readTest_127 : decode cX10_readTest 127 = .ok (.dup2, 1) := by decide +kernel
theorem dX10_readTest_128 : decode cX10_readTest 128 = .ok (.iaload, 1) := by decide +kernel
theorem dX10_readTest_129 : decode cX10_readTest 129 = .ok (.iconst 1, 1) := by decide +kernel
theorem dX10_readTest_130 : decode cX10_readTest 130 = .ok (.iadd, 1) := by decide +kernel
theorem dX10_readTest_131 : decode cX10_readTest 131 = .ok (.iastore, 1) := by decide +kernel
theorem dX10_readTest_132 : decode cX10_readTest 132 = .ok (.return_, 1) := by decide +kernel
theorem dX10_readOwes_0 : decode cX10_readOwes 0 = .ok (.sipush 154, 3) := by decide +kernel
theorem dX10_readOwes_3 : decode cX10_readOwes 3 = .ok (.iconst 5, 1) := by decide +kernel
theorem dX10_readOwes_4 : decode cX10_readOwes 4 = .ok (.aload_n 0, 1) := by decide +kernel
theorem dX10_readOwes_5 : decode cX10_readOwes 5 = .ok (.getfield 34, 3) := by decide +kernel
theorem dX10_readOwes_8 : decode cX10_readOwes 8 = .ok (.iconst 1, 1) := by decide +kernel
theorem dX10_readOwes_9 : decode cX10_readOwes 9 = .ok (.iaload, 1) := by decide +kernel
theorem dX10_readOwes_10 : decode cX10_readOwes 10 = .ok (.imul, 1) := by decide +kernel
theorem dX10_readOwes_11 : decode cX10_readOwes 11 = .ok (.iadd, 1) := by decide +kernel
theorem dX10_readOwes_12 : decode cX10_readOwes 12 = .ok (.istore_n 1, 1) := by decide +kernel
theorem dX10_readOwes_13 : decode cX10_readOwes 13 = .ok (.aload_n 0, 1) := by decide +kernel
theorem dX10_readOwes_14 : decode cX10_readOwes 14 = .ok (.getfield 34, 3) := by decide +kernel
theorem dX10_readOwes_17 : decode cX10_readOwes 17 = .ok (.iload_n 1, 1) := by decide +kernel
theorem dX10_readOwes_18 : decode cX10_readOwes 18 = .ok (.aload_n 0, 1) := by decide +kernel
theorem dX10_readOwes_19 : decode cX10_readOwes 19 = .ok (.aload_n 0, 1) := by decide +kernel
theorem dX10_readOwes_20 : decode cX10_readOwes 20 = .ok (.invokevirtual 252, 3) := by decide +kernel
theorem dX10_readOwes_23 : decode cX10_readOwes 23 = .ok (.invokevirtual 217, 3) := by decide +kernel
theorem dX10_readOwes_26 : decode cX10_readOwes 26 = .ok (.iastore, 1) := by decide +kernel
theorem dX10_readOwes_27 : decode cX10_readOwes 27 = .ok (.aload_n 0, 1) := by decide +kernel
theorem dX10_readOwes_28 : decode cX10_readOwes 28 = .ok (.ldc 255, 2) := by decide +kernel
theorem dX10_readOwes_30 : decode cX10_readOwes 30 = .ok (.invokevirtual 176, 3) := by decide +kernel
theorem dX10_readOwes_33 : decode cX10_readOwes 33 = .ok (.aload_n 0, 1) := by decide +kernel
theorem dX10_readOwes_34 : decode cX10_readOwes 34 = .ok (.getfield 34, 3) := by decide +kernel
theorem dX10_readOwes_37 : decode cX10_readOwes 37 = .ok (.iload_n 1, 1) := by decide +kernel
theorem dX10_readOwes_38 : decode cX10_readOwes 38 = .ok (.iconst 1, 1) := by decide +kernel
theorem dX10_readOwes_39 : decode cX10_readOwes 39 = .ok (.iadd, 1) := by decide +kernel
theorem dX10_readOwes_40 : decode cX10_readOwes 40 = .ok (.aload_n 0, 1) := by decide +kernel
theorem dX10_readOwes_41 : decode cX10_readOwes 41 = .ok (.aload_n 0, 1) := by decide +kernel
theorem dX10_readOwes_42 : decode cX10_readOwes 42 = .ok (.invokevirtual 252, 3) := by decide +kernel
theorem dX10_readOwes_45 : decode cX10_readOwes 45 = .ok (.invokevirtual 217, 3) := by decide +kernel
theorem dX10_readOwes_48 : decode cX10_readOwes 48 = .ok (.iastore, 1) := by decide +kernel
theorem dX10_readOwes_49 : decode cX10_readOwes 49 = .ok (.aload_n 0, 1) := by decide +kernel
theorem dX10_readOwes_50 : decode cX10_readOwes 50 = .ok (.getfield 34, 3) := by decide +kernel
theorem dX10_readOwes_53 : decode cX10_readOwes 53 = .ok (.iload_n 1, 1) := by decide +kernel
theorem dX10_readOwes_54 : decode cX10_readOwes 54 = .ok (.iconst 2, 1) := by decide +kernel
theorem dX10_readOwes_55 : decode cX10_readOwes 55 = .ok (.iadd, 1) := by decide +kernel
theorem dX10_readOwes_56 : decode cX10_readOwes 56 = .ok (.aload_n 0, 1) := by decide +kernel
theorem dX10_readOwes_57 : decode cX10_readOwes 57 = .ok (.ldc_w 257, 3) := by decide +kernel
theorem dX10_readOwes_60 : decode cX10_readOwes 60 = .ok (.iconst 0, 1) := by decide +kernel
theorem dX10_readOwes_61 : decode cX10_readOwes 61 = .ok (.bipush 99, 2) := by decide +kernel
theorem dX10_readOwes_63 : decode cX10_readOwes 63 = .ok (.invokevirtual 206, 3) := by decide +kernel
theorem dX10_readOwes_66 : decode cX10_readOwes 66 = .ok (.iastore, 1) := by decide +kernel
theorem dX10_readOwes_67 : decode cX10_readOwes 67 = .ok (.aload_n 0, 1) := by decide +kernel
theorem dX10_readOwes_68 : decode cX10_readOwes 68 = .ok (.getfield 34, 3) := by decide +kernel
theorem dX10_readOwes_71 : decode cX10_readOwes 71 = .ok (.iload_n 1, 1) := by decide +kernel
theorem dX10_readOwes_72 : decode cX10_readOwes 72 = .ok (.iconst 3, 1) := by decide +kernel
theorem dX10_readOwes_73 : decode cX10_readOwes 73 = .ok (.iadd, 1) := by decide +kernel
theorem dX10_readOwes_74 : decode cX10_readOwes 74 = .ok (.aload_n 0, 1) := by decide +kernel
theorem dX10_readOwes_75 : decode cX10_readOwes 75 = .ok (.getfield 34, 3) := by decide +kernel
theorem dX10_readOwes_78 : decode cX10_readOwes 78 = .ok (.iconst 2, 1) := by decide +kernel
theorem dX10_readOwes_79 : decode cX10_readOwes 79 = .ok (.iaload, 1) := by decide +kernel
theorem dX10_readOwes_80 : decode cX10_readOwes 80 = .ok (.iastore, 1) := by decide +kernel
theorem dX10_readOwes_81 : decode cX10_readOwes 81 = .ok (.aload_n 0, 1) := by decide +kernel
theorem dX10_readOwes_82 : decode cX10_readOwes 82 = .ok (.ldc_w 259, 3) := by decide +kernel
theorem dX10_readOwes_85 : decode cX10_readOwes 85 = .ok (.invokevirtual 169, 3) := by decide +kernel
theorem dX10_readOwes_88 : decode cX10_readOwes 88 = .ok (.ifCond .eq 24, 3) := by decide +kernel
theorem dX10_readOwes_91 : decode cX10_readOwes 91 = .ok (.aload_n 0, 1) := by decide +kernel
theorem dX10_readOwes_92 : decode cX10_readOwes 92 = .ok (.invokevirtual 261, 3) := by decide +kernel
theorem dX10_readOwes_95 : decode cX10_readOwes 95 = .ok (.aload_n 0, 1) := by decide +kernel
theorem dX10_readOwes_96 : decode cX10_readOwes 96 = .ok (.ldc_w 264, 3) := by decide +kernel
theorem dX10_readOwes_99 : decode cX10_readOwes 99 = .ok (.invokevirtual 169, 3) := by decide +kernel
theorem dX10_readOwes_102 : decode cX10_readOwes 102 = .ok (.ifCond .eq 10, 3) := by decide +kernel
theorem dX10_readOwes_105 : decode cX10_readOwes 105 = .ok (.aload_n 0, 1) := by decide +kernel
theorem dX10_readOwes_106 : decode cX10_readOwes 106 = .ok (.invokevirtual 261, 3) := by decide +kernel
theorem dX10_readOwes_109 : decode cX10_readOwes 109 = .ok (.goto (-14), 3) := by decide +kernel
theorem dX10_readOwes_112 : decode cX10_readOwes 112 = .ok (.aload_n 0, 1) := by decide +kernel
theorem dX10_readOwes_113 : decode cX10_readOwes 113 = .ok (.getfield 34, 3) := by decide +kernel
theorem dX10_readOwes_116 : decode cX10_readOwes 116 = .ok (.iload_n 1, 1) := by decide +kernel
theorem dX10_readOwes_117 : decode cX10_readOwes 117 = .ok (.iconst 4, 1) := by decide +kernel
theorem dX10_readOwes_118 : decode cX10_readOwes 118 = .ok (.iadd, 1) := by decide +kernel
theorem dX10_readOwes_119 : decode cX10_readOwes 119 = .ok (.aload_n 0, 1) := by decide +kernel
theorem dX10_readOwes_120 : decode cX10_readOwes 120 = .ok (.getfield 34, 3) := by decide +kernel
theorem dX10_readOwes_123 : decode cX10_readOwes 123 = .ok (.iconst 2, 1) := by decide +kernel
theorem dX10_readOwes_124 : decode cX10_readOwes 124 = .ok (.iaload, 1) := by decide +kernel
theorem dX10_readOwes_125 : decode cX10_readOwes 125 = .ok (.aload_n 0, 1) := by decide +kernel
theorem dX10_readOwes_126 : decode cX10_readOwes 126 = .ok (.getfield 34, 3) := by decide +kernel
theorem dX10_readOwes_129 : decode cX10_readOwes 129 = .ok (.iload_n 1, 1) := by decide +kernel
theorem dX10_readOwes_130 : decode cX10_readOwes 130 = .ok (.iconst 3, 1) := by decide +kernel
theorem dX10_readOwes_131 : decode cX10_readOwes 131 = .ok (.iadd, 1) := by decide +kernel
theorem dX10_readOwes_132 : decode cX10_readOwes 132 = .ok (.iaload, 1) := by decide +kernel
theorem dX10_readOwes_133 : decode cX10_readOwes 133 = .ok (.isub, 1) := by decide +kernel
theorem dX10_readOwes_134 : decode cX10_readOwes 134 = .ok (.iastore, 1) := by decide +kernel
theorem dX10_readOwes_135 : decode cX10_readOwes 135 = .ok (.aload_n 0, 1) := by decide +kernel
theorem dX10_readOwes_136 : decode cX10_readOwes 136 = .ok (.invokevirtual 148, 3) := by decide +kernel
theorem dX10_readOwes_139 : decode cX10_readOwes 139 = .ok (.ifCond .eq 13, 3) := by decide +kernel
theorem dX10_readOwes_142 : decode cX10_readOwes 142 = .ok (.aload_n 0, 1) := by decide +kernel
theorem dX10_readOwes_143 : decode cX10_readOwes 143 = .ok (.getfield 34, 3) := by decide +kernel
theorem dX10_readOwes_146 : decode cX10_readOwes 146 = .ok (.iconst 1, 1) := by decide +kernel
theorem dX10_readOwes_147 : decode cX10_readOwes 147 = .ok (.dup2, 1) := by decide +kernel
theorem dX10_readOwes_148 : decode cX10_readOwes 148 = .ok (.iaload, 1) := by decide +kernel
theorem dX10_readOwes_149 : decode cX10_readOwes 149 = .ok (.iconst 1, 1) := by decide +kernel
theorem dX10_readOwes_150 : decode cX10_readOwes 150 = .ok (.iadd, 1) := by decide +kernel
theorem dX10_readOwes_151 : decode cX10_readOwes 151 = .ok (.iastore, 1) := by decide +kernel
theorem dX10_readOwes_152 : decode cX10_readOwes 152 = .ok (.return_, 1) := by decide +kernel
theorem dX10_readLine_0 : decode cX10_readLine 0 = .ok (.aload_n 0, 1) := by decide +kernel
theorem dX10_readLine_1 : decode cX10_readLine 1 = .ok (.invokevirtual 252, 3) := by decide +kernel
theorem dX10_readLine_4 : decode cX10_readLine 4 = .ok (.iconst (-1), 1) := by decide +kernel
theorem dX10_readLine_5 : decode cX10_readLine 5 = .ok (.if_icmp .eq 7, 3) := by decide +kernel
theorem dX10_readLine_8 : decode cX10_readLine 8 = .ok (.iconst 1, 1) := by decide +kernel
theorem dX10_readLine_9 : decode cX10_readLine 9 = .ok (.goto 4, 3) := by decide +kernel
theorem dX10_readLine_12 : decode cX10_readLine 12 = .ok (.iconst 0, 1) := by decide +kernel
theorem dX10_readLine_13 : decode cX10_readLine 13 = .ok (.istore_n 1, 1) := by decide +kernel
theorem dX10_readLine_14 : decode cX10_readLine 14 = .ok (.iload_n 1, 1) := by decide +kernel
theorem dX10_readLine_15 : decode cX10_readLine 15 = .ok (.ifCond .ne 43, 3) := by decide +kernel
theorem dX10_readLine_18 : decode cX10_readLine 18 = .ok (.aload_n 0, 1) := by decide +kernel
theorem dX10_readLine_19 : decode cX10_readLine 19 = .ok (.ldc_w 266, 3) := by decide +kernel
theorem dX10_readLine_22 : decode cX10_readLine 22 = .ok (.invokevirtual 162, 3) := by decide +kernel
theorem dX10_readLine_25 : decode cX10_readLine 25 = .ok (.ifCond .ne 33, 3) := by decide +kernel
theorem dX10_readLine_28 : decode cX10_readLine 28 = .ok (.aload_n 0, 1) := by decide +kernel
theorem dX10_readLine_29 : decode cX10_readLine 29 = .ok (.ldc_w 268, 3) := by decide +kernel
theorem dX10_readLine_32 : decode cX10_readLine 32 = .ok (.invokevirtual 162, 3) := by decide +kernel
theorem dX10_readLine_35 : decode cX10_readLine 35 = .ok (.ifCond .ne 23, 3) := by decide +kernel
