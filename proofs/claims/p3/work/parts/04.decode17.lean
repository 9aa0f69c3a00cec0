theorem dX10_readLine_38 : decode cX10_readLine 38 = .ok (.aload_n 0, 1) := by decide +kernel
theorem dX10_readLine_39 : decode cX10_readLine 39 = .ok (.ldc_w 270, 3) := by decide +kernel
theorem dX10_readLine_42 : decode cX10_readLine 42 = .ok (.invokevirtual 162, 3) := by decide +kernel
theorem dX10_readLine_45 : decode cX10_readLine 45 = .ok (.ifCond .ne 13, 3) := by decide +kernel
theorem dX10_readLine_48 : decode cX10_readLine 48 = .ok (.aload_n 0, 1) := by decide +kernel
theorem dX10_readLine_49 : decode cX10_readLine 49 = .ok (.ldc_w 272, 3) := by decide +kernel
theorem dX10_readLine_52 : decode cX10_readLine 52 = .ok (.invokevirtual 162, 3) := by decide +kernel
theorem dX10_readLine_55 : decode cX10_readLine 55 = .ok (.ifCond .eq 7, 3) := by decide +kernel
theorem dX10_readLine_58 : decode cX10_readLine 58 = .ok (.iconst 1, 1) := by decide +kernel
theorem dX10_readLine_59 : decode cX10_readLine 59 = .ok (.goto 4, 3) := by decide +kernel
theorem dX10_readLine_62 : decode cX10_readLine 62 = .ok (.iconst 0, 1) := by decide +kernel
theorem dX10_readLine_63 : decode cX10_readLine 63 = .ok (.istore_n 2, 1) := by decide +kernel
theorem dX10_readLine_64 : decode cX10_readLine 64 = .ok (.iload_n 2, 1) := by decide +kernel
theorem dX10_readLine_65 : decode cX10_readLine 65 = .ok (.ifCond .ne 8, 3) := by decide +kernel
theorem dX10_readLine_68 : decode cX10_readLine 68 = .ok (.aload_n 0, 1) := by decide +kernel
theorem dX10_readLine_69 : decode cX10_readLine 69 = .ok (.iconst 1, 1) := by decide +kernel
theorem dX10_readLine_70 : decode cX10_readLine 70 = .ok (.invokevirtual 172, 3) := by decide +kernel
theorem dX10_readLine_73 : decode cX10_readLine 73 = .ok (.aload_n 0, 1) := by decide +kernel
theorem dX10_readLine_74 : decode cX10_readLine 74 = .ok (.ldc_w 266, 3) := by decide +kernel
theorem dX10_readLine_77 : decode cX10_readLine 77 = .ok (.invokevirtual 162, 3) := by decide +kernel
theorem dX10_readLine_80 : decode cX10_readLine 80 = .ok (.ifCond .eq 14, 3) := by decide +kernel
theorem dX10_readLine_83 : decode cX10_readLine 83 = .ok (.aload_n 0, 1) := by decide +kernel
theorem dX10_readLine_84 : decode cX10_readLine 84 = .ok (.getfield 34, 3) := by decide +kernel
theorem dX10_readLine_87 : decode cX10_readLine 87 = .ok (.iconst 0, 1) := by decide +kernel
theorem dX10_readLine_88 : decode cX10_readLine 88 = .ok (.iaload, 1) := by decide +kernel
theorem dX10_readLine_89 : decode cX10_readLine 89 = .ok (.bipush 16, 2) := by decide +kernel
theorem dX10_readLine_91 : decode cX10_readLine 91 = .ok (.if_icmp .eq 18, 3) := by decide +kernel
theorem dX10_readLine_94 : decode cX10_readLine 94 = .ok (.iload_n 1, 1) := by decide +kernel
theorem dX10_readLine_95 : decode cX10_readLine 95 = .ok (.ifCond .eq 19, 3) := by decide +kernel
theorem dX10_readLine_98 : decode cX10_readLine 98 = .ok (.aload_n 0, 1) := by decide +kernel
theorem dX10_readLine_99 : decode cX10_readLine 99 = .ok (.getfield 34, 3) := by decide +kernel
theorem dX10_readLine_102 : decode cX10_readLine 102 = .ok (.iconst 1, 1) := by decide +kernel
theorem dX10_readLine_103 : decode cX10_readLine 103 = .ok (.iaload, 1) := by decide +kernel
theorem dX10_readLine_104 : decode cX10_readLine 104 = .ok (.bipush 24, 2) := by decide +kernel
theorem dX10_readLine_106 : decode cX10_readLine 106 = .ok (.if_icmp .ne 8, 3) := by decide +kernel
theorem dX10_readLine_109 : decode cX10_readLine 109 = .ok (.aload_n 0, 1) := by decide +kernel
theorem dX10_readLine_110 : decode cX10_readLine 110 = .ok (.iconst 3, 1) := by decide +kernel
theorem dX10_readLine_111 : decode cX10_readLine 111 = .ok (.invokevirtual 172, 3) := by decide +kernel
theorem dX10_readLine_114 : decode cX10_readLine 114 = .ok (.aload_n 0, 1) := by decide +kernel
theorem dX10_readLine_115 : decode cX10_readLine 115 = .ok (.invokevirtual 148, 3) := by decide +kernel
theorem dX10_readLine_118 : decode cX10_readLine 118 = .ok (.ifCond .ne 4, 3) := by decide +kernel
theorem dX10_readLine_121 : decode cX10_readLine 121 = .ok (.return_, 1) := by decide +kernel
theorem dX10_readLine_122 : decode cX10_readLine 122 = .ok (.iload_n 1, 1) := by decide +kernel
theorem dX10_readLine_123 : decode cX10_readLine 123 = .ok (.ifCond .eq 10, 3) := by decide +kernel
theorem dX10_readLine_126 : decode cX10_readLine 126 = .ok (.aload_n 0, 1) := by decide +kernel
theorem dX10_readLine_127 : decode cX10_readLine 127 = .ok (.invokevirtual 274, 3) := by decide +kernel
theorem dX10_readLine_130 : decode cX10_readLine 130 = .ok (.goto 80, 3) := by decide +kernel
theorem dX10_readLine_133 : decode cX10_readLine 133 = .ok (.aload_n 0, 1) := by decide +kernel
theorem dX10_readLine_134 : decode cX10_readLine 134 = .ok (.ldc_w 266, 3) := by decide +kernel
theorem dX10_readLine_137 : decode cX10_readLine 137 = .ok (.invokevirtual 169, 3) := by decide +kernel
theorem dX10_readLine_140 : decode cX10_readLine 140 = .ok (.ifCond .eq 10, 3) := by decide +kernel
theorem dX10_readLine_143 : decode cX10_readLine 143 = .ok (.aload_n 0, 1) := by decide +kernel
theorem dX10_readLine_144 : decode cX10_readLine 144 = .ok (.invokevirtual 277, 3) := by decide +kernel
theorem dX10_readLine_147 : decode cX10_readLine 147 = .ok (.goto 63, 3) := by decide +kernel
theorem dX10_readLine_150 : decode cX10_readLine 150 = .ok (.aload_n 0, 1) := by decide +kernel
theorem dX10_readLine_151 : decode cX10_readLine 151 = .ok (.ldc_w 268, 3) := by decide +kernel
theorem dX10_readLine_154 : decode cX10_readLine 154 = .ok (.invokevirtual 169, 3) := by decide +kernel
theorem dX10_readLine_157 : decode cX10_readLine 157 = .ok (.ifCond .eq 10, 3) := by decide +kernel
theorem dX10_readLine_160 : decode cX10_readLine 160 = .ok (.aload_n 0, 1) := by decide +kernel
theorem dX10_readLine_161 : decode cX10_readLine 161 = .ok (.invokevirtual 280, 3) := by decide +kernel
theorem dX10_readLine_164 : decode cX10_readLine 164 = .ok (.goto 46, 3) := by decide +kernel
theorem dX10_readLine_167 : decode cX10_readLine 167 = .ok (.aload_n 0, 1) := by decide +kernel
theorem dX10_readLine_168 : decode cX10_readLine 168 = .ok (.ldc_w 270, 3) := by decide +kernel
theorem dX10_readLine_171 : decode cX10_readLine 171 = .ok (.invokevirtual 169, 3) := by decide +kernel
theorem dX10_readLine_174 : decode cX10_readLine 174 = .ok (.ifCond .eq 19, 3) := by decide +kernel
theorem dX10_readLine_177 : decode cX10_readLine 177 = .ok (.aload_n 0, 1) := by decide +kernel
theorem dX10_readLine_178 : decode cX10_readLine 178 = .ok (.getfield 34, 3) := by decide +kernel
theorem dX10_readLine_181 : decode cX10_readLine 181 = .ok (.iconst 4, 1) := by decide +kernel
theorem dX10_readLine_182 : decode cX10_readLine 182 = .ok (.aload_n 0, 1) := by decide +kernel
theorem dX10_readLine_183 : decode cX10_readLine 183 = .ok (.iconst 0, 1) := by decide +kernel
theorem dX10_readLine_184 : decode cX10_readLine 184 = .ok (.bipush 99, 2) := by decide +kernel
theorem dX10_readLine_186 : decode cX10_readLine 186 = .ok (.invokevirtual 180, 3) := by decide +kernel
theorem dX10_readLine_189 : decode cX10_readLine 189 = .ok (.iastore, 1) := by decide +kernel
theorem dX10_readLine_190 : decode cX10_readLine 190 = .ok (.goto 20, 3) := by decide +kernel
theorem dX10_readLine_193 : decode cX10_readLine 193 = .ok (.aload_n 0, 1) := by decide +kernel
theorem dX10_readLine_194 : decode cX10_readLine 194 = .ok (.invokevirtual 166, 3) := by decide +kernel
theorem dX10_readLine_197 : decode cX10_readLine 197 = .ok (.aload_n 0, 1) := by decide +kernel
theorem dX10_readLine_198 : decode cX10_readLine 198 = .ok (.getfield 34, 3) := by decide +kernel
theorem dX10_readLine_201 : decode cX10_readLine 201 = .ok (.iconst 5, 1) := by decide +kernel
theorem dX10_readLine_202 : decode cX10_readLine 202 = .ok (.aload_n 0, 1) := by decide +kernel
theorem dX10_readLine_203 : decode cX10_readLine 203 = .ok (.iconst 1, 1) := by decide +kernel
theorem dX10_readLine_204 : decode cX10_readLine 204 = .ok (.bipush 9, 2) := by decide +kernel
theorem dX10_readLine_206 : decode cX10_readLine 206 = .ok (.invokevirtual 180, 3) := by decide +kernel
theorem dX10_readLine_209 : decode cX10_readLine 209 = .ok (.iastore, 1) := by decide +kernel
theorem dX10_readLine_210 : decode cX10_readLine 210 = .ok (.aload_n 0, 1) := by decide +kernel
theorem dX10_readLine_211 : decode cX10_readLine 211 = .ok (.invokevirtual 148, 3) := by decide +kernel
theorem dX10_readLine_214 : decode cX10_readLine 214 = .ok (.ifCond .eq 16, 3) := by decide +kernel
theorem dX10_readLine_217 : decode cX10_readLine 217 = .ok (.aload_n 0, 1) := by decide +kernel
theorem dX10_readLine_218 : decode cX10_readLine 218 = .ok (.getfield 125, 3) := by decide +kernel
theorem dX10_readLine_221 : decode cX10_readLine 221 = .ok (.iconst 3, 1) := by decide +kernel
theorem dX10_readLine_222 : decode cX10_readLine 222 = .ok (.if_icmp .eq 8, 3) := by decide +kernel
theorem dX10_readLine_225 : decode cX10_readLine 225 = .ok (.aload_n 0, 1) := by decide +kernel
theorem dX10_readLine_226 : decode cX10_readLine 226 = .ok (.iconst 1, 1) := by decide +kernel
theorem dX10_readLine_227 : decode cX10_readLine 227 = .ok (.invokevirtual 172, 3) := by decide +kernel
theorem dX10_readLine_230 : decode cX10_readLine 230 = .ok (.aload_n 0, 1) := by decide +kernel
theorem dX10_readLine_231 : decode cX10_readLine 231 = .ok (.invokevirtual 148, 3) := by decide +kernel
theorem dX10_readLine_234 : decode cX10_readLine 234 = .ok (.ifCond .eq 7, 3) := by decide +kernel
theorem dX10_readLine_237 : decode cX10_readLine 237 = .ok (.aload_n 0, 1) := by decide +kernel
theorem dX10_readLine_238 : decode cX10_readLine 238 = .ok (.invokevirtual 166, 3) := by decide +kernel
theorem dX10_readLine_241 : decode cX10_readLine 241 = .ok (.return_, 1) := by decide +kernel
theorem dX10_town_0 : decode cX10_town 0 = .ok (.aload_n 0, 1) := by decide +kernel
theorem dX10_town_1 : decode cX10_town 1 = .ok (.aload_n 0, 1) := by decide +kernel
theorem dX10_town_2 : decode cX10_town 2 = .ok (.getfield 109, 3) := by decide +kernel
theorem dX10_town_5 : decode cX10_town 5 = .ok (.putfield 112, 3) := by decide +kernel
theorem dX10_town_8 : decode cX10_town 8 = .ok (.aload_n 0, 1) := by decide +kernel
theorem dX10_town_9 : decode cX10_town 9 = .ok (.iconst 0, 1) := by decide +kernel
theorem dX10_town_10 : decode cX10_town 10 = .ok (.putfield 109, 3) := by decide +kernel
theorem dX10_town_13 : decode cX10_town 13 = .ok (.aload_n 0, 1) := by decide +kernel
theorem dX10_town_14 : decode cX10_town 14 = .ok (.iconst 0, 1) := by decide +kernel
theorem dX10_town_15 : decode cX10_town 15 = .ok (.putfield 115, 3) := by decide +kernel
theorem dX10_town_18 : decode cX10_town 18 = .ok (.aload_n 0, 1) := by decide +kernel
theorem dX10_town_19 : decode cX10_town 19 = .ok (.iconst 0, 1) := by decide +kernel
theorem dX10_town_20 : decode cX10_town 20 = .ok (.putfield 145, 3) := by decide +kernel
theorem dX10_town_23 : decode cX10_town 23 = .ok (.aload_n 0, 1) := by decide +kernel
theorem dX10_town_24 : decode cX10_town 24 = .ok (.iconst (-1), 1) := by decide +kernel
theorem dX10_town_25 : decode cX10_town 25 = .ok (.putfield 31, 3) := by decide +kernel
theorem dX10_town_28 : decode cX10_town 28 = .ok (.iconst 0, 1) := by decide +kernel
theorem dX10_town_29 : decode cX10_town 29 = .ok (.istore_n 1, 1) := by decide +kernel
theorem dX10_town_30 : decode cX10_town 30 = .ok (.iload_n 1, 1) := by decide +kernel
theorem dX10_town_31 : decode cX10_town 31 = .ok (.sipush 9080, 3) := by decide +kernel
theorem dX10_town_34 : decode cX10_town 34 = .ok (.if_icmp .ge 16, 3) := by decide +kernel
theorem dX10_town_37 : decode cX10_town 37 = .ok (.aload_n 0, 1) := by decide +kernel
theorem dX10_town_38 : decode cX10_town 38 = .ok (.getfield 34, 3) := by decide +kernel
theorem dX10_town_41 : decode cX10_town 41 = .ok (.iload_n 1, 1) := by decide +kernel
theorem dX10_town_42 : decode cX10_town 42 = .ok (.iconst 0, 1) := by decide +kernel
theorem dX10_town_43 : decode cX10_town 43 = .ok (.iastore, 1) := by decide +kernel
theorem dX10_town_44 : decode cX10_town 44 = .ok (.iinc 1 1, 3) := by decide +kernel
theorem dX10_town_47 : decode cX10_town 47 = .ok (.goto (-17), 3) := by decide +kernel
theorem dX10_town_50 : decode cX10_town 50 = .ok (.aload_n 0, 1) := by decide +kernel
theorem dX10_town_51 : decode cX10_town 51 = .ok (.getfield 34, 3) := by decide +kernel
theorem dX10_town_54 : decode cX10_town 54 = .ok (.iconst 5, 1) := by decide +kernel
theorem dX10_town_55 : decode cX10_town 55 = .ok (.iconst 3, 1) := by decide +kernel
theorem dX10_town_56 : decode cX10_town 56 = .ok (.iastore, 1) := by decide +kernel
theorem dX10_town_57 : decode cX10_town 57 = .ok (.aload_n 0, 1) := by decide +kernel
theorem dX10_town_58 : decode cX10_town 58 = .ok (.invokevirtual 166, 3) := by decide +kernel
theorem dX10_town_61 : decode cX10_town 61 = .ok (.aload_n 0, 1) := by decide +kernel
theorem dX10_town_62 : decode cX10_town 62 = .ok (.invokevirtual 148, 3) := by decide +kernel
theorem dX10_town_65 : decode cX10_town 65 = .ok (.ifCond .eq 17, 3) := by decide +kernel
theorem dX10_town_68 : decode cX10_town 68 = .ok (.aload_n 0, 1) := by decide +kernel
theorem dX10_town_69 : decode cX10_town 69 = .ok (.getfield 125, 3) := by decide +kernel
theorem dX10_town_72 : decode cX10_town 72 = .ok (.ifCond .eq 10, 3) := by decide +kernel
theorem dX10_town_75 : decode cX10_town 75 = .ok (.aload_n 0, 1) := by decide +kernel
theorem dX10_town_76 : decode cX10_town 76 = .ok (.invokevirtual 283, 3) := by decide +kernel
theorem dX10_town_79 : decode cX10_town 79 = .ok (.goto (-18), 3) := by decide +kernel
theorem dX10_town_82 : decode cX10_town 82 = .ok (.aload_n 0, 1) := by decide +kernel
theorem dX10_town_83 : decode cX10_town 83 = .ok (.invokevirtual 148, 3) := by decide +kernel
theorem dX10_town_86 : decode cX10_town 86 = .ok (.ifCond .ne 6, 3) := by decide +kernel
theorem dX10_town_89 : decode cX10_town 89 = .ok (.bipush (-4), 2) := by decide +kernel
theorem dX10_town_91 : decode cX10_town 91 = .ok (.ireturn, 1) := by decide +kernel
theorem dX10_town_92 : decode cX10_town 92 = .ok (.iconst 0, 1) := by decide +kernel
theorem dX10_town_93 : decode cX10_town 93 = .ok (.istore_n 1, 1) := by decide +kernel
theorem dX10_town_94 : decode cX10_town 94 = .ok (.iload_n 1, 1) := by decide +kernel
theorem dX10_town_95 : decode cX10_town 95 = .ok (.sipush 9080, 3) := by decide +kernel
theorem dX10_town_98 : decode cX10_town 98 = .ok (.if_icmp .ge 21, 3) := by decide +kernel
theorem dX10_town_101 : decode cX10_town 101 = .ok (.aload_n 0, 1) := by decide +kernel
theorem dX10_town_102 : decode cX10_town 102 = .ok (.getfield 13, 3) := by decide +kernel
theorem dX10_town_105 : decode cX10_town 105 = .ok (.iload_n 1, 1) := by decide +kernel
theorem dX10_town_106 : decode cX10_town 106 = .ok (.aload_n 0, 1) := by decide +kernel
theorem dX10_town_107 : decode cX10_town 107 = .ok (.getfield 34, 3) := by decide +kernel
theorem dX10_town_110 : decode cX10_town 110 = .ok (.iload_n 1, 1) := by decide +kernel
theorem dX10_town_111 : decode cX10_town 111 = .ok (.iaload, 1) := by decide +kernel
theorem dX10_town_112 : decode cX10_town 112 = .ok (.iastore, 1) := by decide +kernel
theorem dX10_town_113 : decode cX10_town 113 = .ok (.iinc 1 1, 3) := by decide +kernel
theorem dX10_town_116 : decode cX10_town 116 = .ok (.goto (-22), 3) := by decide +kernel
theorem dX10_town_119 : decode cX10_town 119 = .ok (.iconst 0, 1) := by decide +kernel
theorem dX10_town_120 : decode cX10_town 120 = .ok (.istore_n 1, 1) := by decide +kernel
theorem dX10_town_121 : decode cX10_town 121 = .ok (.iload_n 1, 1) := by decide +kernel
theorem dX10_town_122 : decode cX10_town 122 = .ok (.bipush 16, 2) := by decide +kernel
theorem dX10_town_124 : decode cX10_town 124 = .ok (.if_icmp .ge 26, 3) := by decide +kernel
theorem dX10_town_127 : decode cX10_town 127 = .ok (.aload_n 0, 1) := by decide +kernel
theorem dX10_town_128 : decode cX10_town 128 = .ok (.getfield 13, 3) := by decide +kernel
theorem dX10_town_131 : decode cX10_town 131 = .ok (.sipush 1864, 3) := by decide +kernel
theorem dX10_town_134 : decode cX10_town 134 = .ok (.iload_n 1, 1) := by decide +kernel
theorem dX10_town_135 : decode cX10_town 135 = .ok (.iadd, 1) := by decide +kernel
theorem dX10_town_136 : decode cX10_town 136 = .ok (.aload_n 0, 1) := by decide +kernel
theorem dX10_town_137 : decode cX10_town 137 = .ok (.iload_n 1, 1) := by decide +kernel
theorem dX10_town_138 : decode cX10_town 138 = .ok (.bipush 8, 2) := by decide +kernel
theorem dX10_town_140 : decode cX10_town 140 = .ok (.invokevirtual 286, 3) := by decide +kernel
theorem dX10_town_143 : decode cX10_town 143 = .ok (.iastore, 1) := by decide +kernel
theorem dX10_town_144 : decode cX10_town 144 = .ok (.iinc 1 1, 3) := by decide +kernel
theorem dX10_town_147 : decode cX10_town 147 = .ok (.goto (-26), 3) := by decide +kernel
theorem dX10_town_150 : decode cX10_town 150 = .ok (.aload_n 0, 1) := by decide +kernel
theorem dX10_town_151 : decode cX10_town 151 = .ok (.getfield 13, 3) := by decide +kernel
theorem dX10_town_154 : decode cX10_town 154 = .ok (.iconst 0, 1) := by decide +kernel
theorem dX10_town_155 : decode cX10_town 155 = .ok (.iaload, 1) := by decide +kernel
theorem dX10_town_156 : decode cX10_town 156 = .ok (.ireturn, 1) := by decide +kernel
theorem dX10_days_0 : decode cX10_days 0 = .ok (.iload_n 1, 1) := by decide +kernel
theorem dX10_days_1 : decode cX10_days 1 = .ok (.i2l, 1) := by decide +kernel
theorem dX10_days_2 : decode cX10_days 2 = .ok (.lconst 0, 1) := by decide +kernel
theorem dX10_days_3 : decode cX10_days 3 = .ok (.ldc2_w 289, 3) := by decide +kernel
theorem dX10_days_6 : decode cX10_days 6 = .ok (.invokestatic 101, 3) := by decide +kernel
theorem dX10_days_9 : decode cX10_days 9 = .ok (.ifCond .eq 15, 3) := by decide +kernel
theorem dX10_days_12 : decode cX10_days 12 = .ok (.aload_n 0, 1) := by decide +kernel
theorem dX10_days_13 : decode cX10_days 13 = .ok (.invokevirtual 291, 3) := by decide +kernel
theorem dX10_days_16 : decode cX10_days 16 = .ok (.iload_n 1, 1) := by decide +kernel
theorem dX10_days_17 : decode cX10_days 17 = .ok (.iadd, 1) := by decide +kernel
theorem dX10_days_18 : decode cX10_days 18 = .ok (.sipush 399, 3) := by decide +kernel
theorem dX10_days_21 : decode cX10_days 21 = .ok (.if_icmp .le 6, 3) := by decide +kernel
theorem dX10_days_24 : decode cX10_days 24 = .ok (.bipush (-2), 2) := by decide +kernel
theorem dX10_days_26 : decode cX10_days 26 = .ok (.ireturn, 1) := by decide +kernel
theorem dX10_days_27 : decode cX10_days 27 = .ok (.aload_n 0, 1) := by decide +kernel
theorem dX10_days_28 : decode cX10_days 28 = .ok (.getfield 13, 3) := by decide +kernel
theorem dX10_days_31 : decode cX10_days 31 = .ok (.bipush 6, 2) := by decide +kernel
theorem dX10_days_33 : decode cX10_days 33 = .ok (.dup2, 1) := by decide +kernel
theorem dX10_days_34 : decode cX10_days 34 = .ok (.iaload, 1) := by decide +kernel
theorem dX10_days_35 : decode cX10_days 35 = .ok (.iload_n 1, 1) := by decide +kernel
theorem dX10_days_36 : decode cX10_days 36 = .ok (.iadd, 1) := by decide +kernel
theorem dX10_days_37 : decode cX10_days 37 = .ok (.iastore, 1) := by decide +kernel
theorem dX10_days_38 : decode cX10_days 38 = .ok (.aload_n 0, 1) := by decide +kernel
theorem dX10_days_39 : decode cX10_days 39 = .ok (.invokevirtual 291, 3) := by decide +kernel
theorem dX10_days_42 : decode cX10_days 42 = .ok (.ireturn, 1) := by decide +kernel
theorem dX10_isThere_0 : decode cX10_isThere 0 = .ok (.aload_n 0, 1) := by decide +kernel
theorem dX10_isThere_1 : decode cX10_isThere 1 = .ok (.iload_n 1, 1) := by decide +kernel
theorem dX10_isThere_2 : decode cX10_isThere 2 = .ok (.bipush 6, 2) := by decide +kernel
theorem dX10_isThere_4 : decode cX10_isThere 4 = .ok (.invokevirtual 286, 3) := by decide +kernel
theorem dX10_isThere_7 : decode cX10_isThere 7 = .ok (.iload_n 2, 1) := by decide +kernel
theorem dX10_isThere_8 : decode cX10_isThere 8 = .ok (.if_icmp .gt 7, 3) := by decide +kernel
theorem dX10_isThere_11 : decode cX10_isThere 11 = .ok (.iconst 1, 1) := by decide +kernel
theorem dX10_isThere_12 : decode cX10_isThere 12 = .ok (.goto 4, 3) := by decide +kernel
theorem dX10_isThere_15 : decode cX10_isThere 15 = .ok (.iconst 0, 1) := by decide +kernel
theorem dX10_isThere_16 : decode cX10_isThere 16 = .ok (.ireturn, 1) := by decide +kernel
theorem dX10_isNew_0 : decode cX10_isNew 0 = .ok (.aload_n 0, 1) := by decide +kernel
theorem dX10_isNew_1 : decode cX10_isNew 1 = .ok (.invokevirtual 291, 3) := by decide +kernel
theorem dX10_isNew_4 : decode cX10_isNew 4 = .ok (.aload_n 0, 1) := by decide +kernel
theorem dX10_isNew_5 : decode cX10_isNew 5 = .ok (.iload_n 1, 1) := by decide +kernel
theorem dX10_isNew_6 : decode cX10_isNew 6 = .ok (.bipush 6, 2) := by decide +kernel
theorem dX10_isNew_8 : decode cX10_isNew 8 = .ok (.invokevirtual 286, 3) := by decide +kernel
theorem dX10_isNew_11 : decode cX10_isNew 11 = .ok (.isub, 1) := by decide +kernel
theorem dX10_isNew_12 : decode cX10_isNew 12 = .ok (.aload_n 0, 1) := by decide +kernel
theorem dX10_isNew_13 : decode cX10_isNew 13 = .ok (.getfield 13, 3) := by decide +kernel
theorem dX10_isNew_16 : decode cX10_isNew 16 = .ok (.iconst 4, 1) := by decide +kernel
theorem dX10_isNew_17 : decode cX10_isNew 17 = .ok (.iaload, 1) := by decide +kernel
theorem dX10_isNew_18 : decode cX10_isNew 18 = .ok (.if_icmp .gt 7, 3) := by decide +kernel
theorem dX10_isNew_21 : decode cX10_isNew 21 = .ok (.iconst 1, 1) := by decide +kernel
theorem dX10_isNew_22 : decode cX10_isNew 22 = .ok (.goto 4, 3) := by decide +kernel
theorem dX10_isNew_25 : decode cX10_isNew 25 = .ok (.iconst 0, 1) := by decide +kernel
theorem dX10_isNew_26 : decode cX10_isNew 26 = .ok (.ireturn, 1) := by decide +kernel
theorem dX10_areKnown_0 : decode cX10_areKnown 0 = .ok (.aload_n 0, 1) := by decide +kernel
theorem dX10_areKnown_1 : decode cX10_areKnown 1 = .ok (.getfield 13, 3) := by decide +kernel
theorem dX10_areKnown_4 : decode cX10_areKnown 4 = .ok (.sipush 1864, 3) := by decide +kernel
theorem dX10_areKnown_7 : decode cX10_areKnown 7 = .ok (.iload_n 1, 1) := by decide +kernel
theorem dX10_areKnown_8 : decode cX10_areKnown 8 = .ok (.iadd, 1) := by decide +kernel
theorem dX10_areKnown_9 : decode cX10_areKnown 9 = .ok (.iaload, 1) := by decide +kernel
theorem dX10_areKnown_10 : decode cX10_areKnown 10 = .ok (.iload_n 2, 1) := by decide +kernel
theorem dX10_areKnown_11 : decode cX10_areKnown 11 = .ok (.invokestatic 294, 3) := by decide +kernel
theorem dX10_areKnown_14 : decode cX10_areKnown 14 = .ok (.ireturn, 1) := by decide +kernel
theorem dX10_isIntroduced_0 : decode cX10_isIntroduced 0 = .ok (.iload_n 1, 1) := by decide +kernel
theorem dX10_isIntroduced_1 : decode cX10_isIntroduced 1 = .ok (.aload_n 0, 1) := by decide +kernel
theorem dX10_isIntroduced_2 : decode cX10_isIntroduced 2 = .ok (.getfield 13, 3) := by decide +kernel
theorem dX10_isIntroduced_5 : decode cX10_isIntroduced 5 = .ok (.sipush 1864, 3) := by decide +kernel
theorem dX10_isIntroduced_8 : decode cX10_isIntroduced 8 = .ok (.iload_n 2, 1) := by decide +kernel
theorem dX10_isIntroduced_9 : decode cX10_isIntroduced 9 = .ok (.iadd, 1) := by decide +kernel
theorem dX10_isIntroduced_10 : decode cX10_isIntroduced 10 = .ok (.iaload, 1) := by decide +kernel
theorem dX10_isIntroduced_11 : decode cX10_isIntroduced 11 = .ok (.iand, 1) := by decide +kernel
theorem dX10_isIntroduced_12 : decode cX10_isIntroduced 12 = .ok (.invokestatic 298, 3) := by decide +kernel
theorem dX10_isIntroduced_15 : decode cX10_isIntroduced 15 = .ok (.aload_n 0, 1) := by decide +kernel
theorem dX10_isIntroduced_16 : decode cX10_isIntroduced 16 = .ok (.getfield 13, 3) := by decide +kernel
theorem dX10_isIntroduced_19 : decode cX10_isIntroduced 19 = .ok (.iconst 5, 1) := by decide +kernel
theorem dX10_isIntroduced_20 : decode cX10_isIntroduced 20 = .ok (.iaload, 1) := by decide +kernel
theorem dX10_isIntroduced_21 : decode cX10_isIntroduced 21 = .ok (.if_icmp .lt 7, 3) := by decide +kernel
theorem dX10_isIntroduced_24 : decode cX10_isIntroduced 24 = .ok (.iconst 1, 1) := by decide +kernel
theorem dX10_isIntroduced_25 : decode cX10_isIntroduced 25 = .ok (.goto 4, 3) := by decide +kernel
theorem dX10_isIntroduced_28 : decode cX10_isIntroduced 28 = .ok (.iconst 0, 1) := by decide +kernel
theorem dX10_isIntroduced_29 : decode cX10_isIntroduced 29 = .ok (.ireturn, 1) := by decide +kernel
theorem dX10_barsOf_0 : decode cX10_barsOf 0 = .ok (.aload_n 0, 1) := by decide +kernel
theorem dX10_barsOf_1 : decode cX10_barsOf 1 = .ok (.iload_n 1, 1) := by decide +kernel
theorem dX10_barsOf_2 : decode cX10_barsOf 2 = .ok (.aload_n 0, 1) := by decide +kernel
theorem dX10_barsOf_3 : decode cX10_barsOf 3 = .ok (.invokevirtual 291, 3) := by decide +kernel
theorem dX10_barsOf_6 : decode cX10_barsOf 6 = .ok (.invokevirtual 301, 3) := by decide +kernel
theorem dX10_barsOf_9 : decode cX10_barsOf 9 = .ok (.ifCond .eq 19, 3) := by decide +kernel
theorem dX10_barsOf_12 : decode cX10_barsOf 12 = .ok (.aload_n 0, 1) := by decide +kernel
theorem dX10_barsOf_13 : decode cX10_barsOf 13 = .ok (.iload_n 2, 1) := by decide +kernel
theorem dX10_barsOf_14 : decode cX10_barsOf 14 = .ok (.aload_n 0, 1) := by decide +kernel
theorem dX10_barsOf_15 : decode cX10_barsOf 15 = .ok (.invokevirtual 291, 3) := by decide +kernel
theorem dX10_barsOf_18 : decode cX10_barsOf 18 = .ok (.invokevirtual 301, 3) := by decide +kernel
theorem dX10_barsOf_21 : decode cX10_barsOf 21 = .ok (.ifCond .eq 7, 3) := by decide +kernel
theorem dX10_barsOf_24 : decode cX10_barsOf 24 = .ok (.iconst 1, 1) := by decide +kernel
theorem dX10_barsOf_25 : decode cX10_barsOf 25 = .ok (.goto 4, 3) := by decide +kernel
theorem dX10_barsOf_28 : decode cX10_barsOf 28 = .ok (.iconst 0, 1) := by decide +kernel
theorem dX10_barsOf_29 : decode cX10_barsOf 29 = .ok (.istore 4, 2) := by decide +kernel
theorem dX10_barsOf_31 : decode cX10_barsOf 31 = .ok (.aload_n 0, 1) := by decide +kernel
theorem dX10_barsOf_32 : decode cX10_barsOf 32 = .ok (.iload_n 1, 1) := by decide +kernel
theorem dX10_barsOf_33 : decode cX10_barsOf 33 = .ok (.iload_n 2, 1) := by decide +kernel
theorem dX10_barsOf_34 : decode cX10_barsOf 34 = .ok (.invokevirtual 304, 3) := by decide +kernel
theorem dX10_barsOf_37 : decode cX10_barsOf 37 = .ok (.ifCond .ne 37, 3) := by decide +kernel
theorem dX10_barsOf_40 : decode cX10_barsOf 40 = .ok (.aload_n 0, 1) := by decide +kernel
theorem dX10_barsOf_41 : decode cX10_barsOf 41 = .ok (.iload_n 2, 1) := by decide +kernel
theorem dX10_barsOf_42 : decode cX10_barsOf 42 = .ok (.invokevirtual 307, 3) := by decide +kernel
theorem dX10_barsOf_45 : decode cX10_barsOf 45 = .ok (.ifCond .eq 11, 3) := by decide +kernel
theorem dX10_barsOf_48 : decode cX10_barsOf 48 = .ok (.aload_n 0, 1) := by decide +kernel
theorem dX10_barsOf_49 : decode cX10_barsOf 49 = .ok (.iload_n 1, 1) := by decide +kernel
theorem dX10_barsOf_50 : decode cX10_barsOf 50 = .ok (.invokevirtual 307, 3) := by decide +kernel
theorem dX10_barsOf_53 : decode cX10_barsOf 53 = .ok (.ifCond .eq 21, 3) := by decide +kernel
theorem dX10_barsOf_56 : decode cX10_barsOf 56 = .ok (.aload_n 0, 1) := by decide +kernel
theorem dX10_barsOf_57 : decode cX10_barsOf 57 = .ok (.aload_n 0, 1) := by decide +kernel
theorem dX10_barsOf_58 : decode cX10_barsOf 58 = .ok (.getfield 13, 3) := by decide +kernel
theorem dX10_barsOf_61 : decode cX10_barsOf 61 = .ok (.sipush 1864, 3) := by decide +kernel
theorem dX10_barsOf_64 : decode cX10_barsOf 64 = .ok (.iload_n 1, 1) := by decide +kernel
theorem dX10_barsOf_65 : decode cX10_barsOf 65 = .ok (.iadd, 1) := by decide +kernel
theorem dX10_barsOf_66 : decode cX10_barsOf 66 = .ok (.iaload, 1) := by decide +kernel
theorem dX10_barsOf_67 : decode cX10_barsOf 67 = .ok (.iload_n 2, 1) := by decide +kernel
theorem dX10_barsOf_68 : decode cX10_barsOf 68 = .ok (.invokevirtual 310, 3) := by decide +kernel
theorem dX10_barsOf_71 : decode cX10_barsOf 71 = .ok (.ifCond .eq 7, 3) := by decide +kernel
theorem dX10_barsOf_74 : decode cX10_barsOf 74 = .ok (.iconst 1, 1) := by decide +kernel
theorem dX10_barsOf_75 : decode cX10_barsOf 75 = .ok (.goto 4, 3) := by decide +kernel
theorem dX10_barsOf_78 : decode cX10_barsOf 78 = .ok (.iconst 0, 1) := by decide +kernel
theorem dX10_barsOf_79 : decode cX10_barsOf 79 = .ok (.istore 5, 2) := by decide +kernel
theorem dX10_barsOf_81 : decode cX10_barsOf 81 = .ok (.iload 4, 2) := by decide +kernel
theorem dX10_barsOf_83 : decode cX10_barsOf 83 = .ok (.ifCond .eq 8, 3) := by decide +kernel
theorem dX10_barsOf_86 : decode cX10_barsOf 86 = .ok (.iload 5, 2) := by decide +kernel
theorem dX10_barsOf_88 : decode cX10_barsOf 88 = .ok (.ifCond .ne 5, 3) := by decide +kernel
theorem dX10_barsOf_91 : decode cX10_barsOf 91 = .ok (.iconst 1, 1) := by decide +kernel
theorem dX10_barsOf_92 : decode cX10_barsOf 92 = .ok (.ireturn, 1) := by decide +kernel
theorem dX10_barsOf_93 : decode cX10_barsOf 93 = .ok (.iload_n 3, 1) := by decide +kernel
theorem dX10_barsOf_94 : decode cX10_barsOf 94 = .ok (.iconst 2, 1) := by decide +kernel
theorem dX10_barsOf_95 : decode cX10_barsOf 95 = .ok (.if_icmp .ge 5, 3) := by decide +kernel
theorem dX10_barsOf_98 : decode cX10_barsOf 98 = .ok (.iconst 0, 1) := by decide +kernel
theorem dX10_barsOf_99 : decode cX10_barsOf 99 = .ok (.ireturn, 1) := by decide +kernel
theorem dX10_barsOf_100 : decode cX10_barsOf 100 = .ok (.aload_n 0, 1) := by decide +kernel
theorem dX10_barsOf_101 : decode cX10_barsOf 101 = .ok (.invokevirtual 291, 3) := by decide +kernel
theorem dX10_barsOf_104 : decode cX10_barsOf 104 = .ok (.bipush 7, 2) := by decide +kernel
theorem dX10_barsOf_106 : decode cX10_barsOf 106 = .ok (.irem, 1) := by decide +kernel
theorem dX10_barsOf_107 : decode cX10_barsOf 107 = .ok (.aload_n 0, 1) := by decide +kernel
theorem dX10_barsOf_108 : decode cX10_barsOf 108 = .ok (.iload_n 2, 1) := by decide +kernel
theorem dX10_barsOf_109 : decode cX10_barsOf 109 = .ok (.iconst 3, 1) := by decide +kernel
theorem dX10_barsOf_110 : decode cX10_barsOf 110 = .ok (.invokevirtual 286, 3) := by decide +kernel
theorem dX10_barsOf_113 : decode cX10_barsOf 113 = .ok (.if_icmp .eq 5, 3) := by decide +kernel
theorem dX10_barsOf_116 : decode cX10_barsOf 116 = .ok (.iconst 2, 1) := by decide +kernel
theorem dX10_barsOf_117 : decode cX10_barsOf 117 = .ok (.ireturn, 1) := by decide +kernel
theorem dX10_barsOf_118 : decode cX10_barsOf 118 = .ok (.aload_n 0, 1) := by decide +kernel
theorem dX10_barsOf_119 : decode cX10_barsOf 119 = .ok (.iload_n 1, 1) := by decide +kernel
theorem dX10_barsOf_120 : decode cX10_barsOf 120 = .ok (.bipush 7, 2) := by decide +kernel
theorem dX10_barsOf_122 : decode cX10_barsOf 122 = .ok (.invokevirtual 286, 3) := by decide +kernel
theorem dX10_barsOf_125 : decode cX10_barsOf 125 = .ok (.ifCond .le 29, 3) := by decide +kernel
theorem dX10_barsOf_128 : decode cX10_barsOf 128 = .ok (.aload_n 0, 1) := by decide +kernel
theorem dX10_barsOf_129 : decode cX10_barsOf 129 = .ok (.invokevirtual 291, 3) := by decide +kernel
theorem dX10_barsOf_132 : decode cX10_barsOf 132 = .ok (.aload_n 0, 1) := by decide +kernel
theorem dX10_barsOf_133 : decode cX10_barsOf 133 = .ok (.iload_n 1, 1) := by decide +kernel
theorem dX10_barsOf_134 : decode cX10_barsOf 134 = .ok (.bipush 6, 2) := by decide +kernel
theorem dX10_barsOf_136 : decode cX10_barsOf 136 = .ok (.invokevirtual 286, 3) := by decide +kernel
theorem dX10_barsOf_139 : decode cX10_barsOf 139 = .ok (.aload_n 0, 1) := by decide +kernel
theorem dX10_barsOf_140 : decode cX10_barsOf 140 = .ok (.iload_n 1, 1) := by decide +kernel
theorem dX10_barsOf_141 : decode cX10_barsOf 141 = .ok (.bipush 7, 2) := by decide +kernel
theorem dX10_barsOf_143 : decode cX10_barsOf 143 = .ok (.invokevirtual 286, 3) := by decide +kernel
theorem dX10_barsOf_146 : decode cX10_barsOf 146 = .ok (.iadd, 1) := by decide +kernel
theorem dX10_barsOf_147 : decode cX10_barsOf 147 = .ok (.if_icmp .gt 7, 3) := by decide +kernel
theorem dX10_barsOf_150 : decode cX10_barsOf 150 = .ok (.iconst 3, 1) := by decide +kernel
theorem dX10_barsOf_151 : decode cX10_barsOf 151 = .ok (.goto 4, 3) := by decide +kernel
theorem dX10_barsOf_154 : decode cX10_barsOf 154 = .ok (.iconst 0, 1) := by decide +kernel
theorem dX10_barsOf_155 : decode cX10_barsOf 155 = .ok (.ireturn, 1) := by decide +kernel
theorem dX10_isPaying_0 : decode cX10_isPaying 0 = .ok (.iload_n 0, 1) := by decide +kernel
theorem dX10_isPaying_1 : decode cX10_isPaying 1 = .ok (.i2l, 1) := by decide +kernel
theorem dX10_isPaying_2 : decode cX10_isPaying 2 = .ok (.lconst 0, 1) := by decide +kernel
theorem dX10_isPaying_3 : decode cX10_isPaying 3 = .ok (.ldc2_w 313, 3) := by decide +kernel
theorem dX10_isPaying_6 : decode cX10_isPaying 6 = .ok (.invokestatic 101, 3) := by decide +kernel
theorem dX10_isPaying_9 : decode cX10_isPaying 9 = .ok (.ireturn, 1) := by decide +kernel
theorem dX10_bars_0 : decode cX10_bars 0 = .ok (.aload_n 0, 1) := by decide +kernel
theorem dX10_bars_1 : decode cX10_bars 1 = .ok (.iload_n 1, 1) := by decide +kernel
theorem dX10_bars_2 : decode cX10_bars 2 = .ok (.iload_n 2, 1) := by decide +kernel
theorem dX10_bars_3 : decode cX10_bars 3 = .ok (.invokevirtual 315, 3) := by decide +kernel
theorem dX10_bars_6 : decode cX10_bars 6 = .ok (.ifCond .eq 20, 3) := by decide +kernel
theorem dX10_bars_9 : decode cX10_bars 9 = .ok (.iload_n 3, 1) := by decide +kernel
theorem dX10_bars_10 : decode cX10_bars 10 = .ok (.invokestatic 318, 3) := by decide +kernel
theorem dX10_bars_13 : decode cX10_bars 13 = .ok (.ifCond .eq 13, 3) := by decide +kernel
theorem dX10_bars_16 : decode cX10_bars 16 = .ok (.aload_n 0, 1) := by decide +kernel
theorem dX10_bars_17 : decode cX10_bars 17 = .ok (.iload_n 1, 1) := by decide +kernel
theorem dX10_bars_18 : decode cX10_bars 18 = .ok (.iload_n 2, 1) := by decide +kernel
theorem dX10_bars_19 : decode cX10_bars 19 = .ok (.iload_n 3, 1) := by decide +kernel
theorem dX10_bars_20 : decode cX10_bars 20 = .ok (.invokevirtual 321, 3) := by decide +kernel
theorem dX10_bars_23 : decode cX10_bars 23 = .ok (.goto 5, 3) := by decide +kernel
theorem dX10_bars_26 : decode cX10_bars 26 = .ok (.bipush (-2), 2) := by decide +kernel
theorem dX10_bars_28 : decode cX10_bars 28 = .ok (.ireturn, 1) := by decide +kernel
theorem dX10_known_0 : decode cX10_known 0 = .ok (.aload_n 0, 1) := by decide +kernel
theorem dX10_known_1 : decode cX10_known 1 = .ok (.iload_n 1, 1) := by decide +kernel
theorem dX10_known_2 : decode cX10_known 2 = .ok (.iload_n 2, 1) := by decide +kernel
theorem dX10_known_3 : decode cX10_known 3 = .ok (.invokevirtual 315, 3) := by decide +kernel
theorem dX10_known_6 : decode cX10_known 6 = .ok (.ifCond .ne 8, 3) := by decide +kernel
theorem dX10_known_9 : decode cX10_known 9 = .ok (.bipush (-2), 2) := by decide +kernel
theorem dX10_known_11 : decode cX10_known 11 = .ok (.goto 17, 3) := by decide +kernel
theorem dX10_known_14 : decode cX10_known 14 = .ok (.aload_n 0, 1) := by decide +kernel
theorem dX10_known_15 : decode cX10_known 15 = .ok (.iload_n 1, 1) := by decide +kernel
theorem dX10_known_16 : decode cX10_known 16 = .ok (.iload_n 2, 1) := by decide +kernel
theorem dX10_known_17 : decode cX10_known 17 = .ok (.invokevirtual 304, 3) := by decide +kernel
theorem dX10_known_20 : decode cX10_known 20 = .ok (.ifCond .eq 7, 3) := by decide +kernel
theorem dX10_known_23 : decode cX10_known 23 = .ok (.iconst 1, 1) := by decide +kernel
theorem dX10_known_24 : decode cX10_known 24 = .ok (.goto 4, 3) := by decide +kernel
theorem dX10_known_27 : decode cX10_known 27 = .ok (.iconst 0, 1) := by decide +kernel
theorem dX10_known_28 : decode cX10_known 28 = .ok (.ireturn, 1) := by decide +kernel
theorem dX10_debtsOf_0 : decode cX10_debtsOf 0 = .ok (.iconst 0, 1) := by decide +kernel
theorem dX10_debtsOf_1 : decode cX10_debtsOf 1 = .ok (.istore_n 2, 1) := by decide +kernel
theorem dX10_debtsOf_2 : decode cX10_debtsOf 2 = .ok (.iconst 0, 1) := by decide +kernel
theorem dX10_debtsOf_3 : decode cX10_debtsOf 3 = .ok (.istore_n 3, 1) := by decide +kernel
theorem dX10_debtsOf_4 : decode cX10_debtsOf 4 = .ok (.iload_n 3, 1) := by decide +kernel
theorem dX10_debtsOf_5 : decode cX10_debtsOf 5 = .ok (.aload_n 0, 1) := by decide +kernel
theorem dX10_debtsOf_6 : decode cX10_debtsOf 6 = .ok (.getfield 13, 3) := by decide +kernel
theorem dX10_debtsOf_9 : decode cX10_debtsOf 9 = .ok (.bipush 7, 2) := by decide +kernel
theorem dX10_debtsOf_11 : decode cX10_debtsOf 11 = .ok (.iaload, 1) := by decide +kernel
theorem dX10_debtsOf_12 : decode cX10_debtsOf 12 = .ok (.if_icmp .ge 27, 3) := by decide +kernel
theorem dX10_debtsOf_15 : decode cX10_debtsOf 15 = .ok (.iload_n 2, 1) := by decide +kernel
theorem dX10_debtsOf_16 : decode cX10_debtsOf 16 = .ok (.aload_n 0, 1) := by decide +kernel
