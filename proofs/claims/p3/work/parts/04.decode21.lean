theorem dX10_goesThrough_103 : decode cX10_goesThrough 103 = .ok (.iastore, 1) := by decide +kernel
theorem dX10_goesThrough_104 : decode cX10_goesThrough 104 = .ok (.goto 124, 3) := by decide +kernel
theorem dX10_goesThrough_107 : decode cX10_goesThrough 107 = .ok (.iconst 0, 1) := by decide +kernel
theorem dX10_goesThrough_108 : decode cX10_goesThrough 108 = .ok (.istore 9, 2) := by decide +kernel
theorem dX10_goesThrough_110 : decode cX10_goesThrough 110 = .ok (.iload 9, 2) := by decide +kernel
theorem dX10_goesThrough_112 : decode cX10_goesThrough 112 = .ok (.aload_n 0, 1) := by decide +kernel
theorem dX10_goesThrough_113 : decode cX10_goesThrough 113 = .ok (.getfield 393, 3) := by decide +kernel
theorem dX10_goesThrough_116 : decode cX10_goesThrough 116 = .ok (.if_icmp .ge 112, 3) := by decide +kernel
theorem dX10_goesThrough_119 : decode cX10_goesThrough 119 = .ok (.iload 8, 2) := by decide +kernel
theorem dX10_goesThrough_121 : decode cX10_goesThrough 121 = .ok (.iload 9, 2) := by decide +kernel
theorem dX10_goesThrough_123 : decode cX10_goesThrough 123 = .ok (.invokestatic 294, 3) := by decide +kernel
theorem dX10_goesThrough_126 : decode cX10_goesThrough 126 = .ok (.ifCond .eq 96, 3) := by decide +kernel
theorem dX10_goesThrough_129 : decode cX10_goesThrough 129 = .ok (.aload_n 0, 1) := by decide +kernel
theorem dX10_goesThrough_130 : decode cX10_goesThrough 130 = .ok (.getfield 49, 3) := by decide +kernel
theorem dX10_goesThrough_133 : decode cX10_goesThrough 133 = .ok (.bipush 10, 2) := by decide +kernel
theorem dX10_goesThrough_135 : decode cX10_goesThrough 135 = .ok (.iload 8, 2) := by decide +kernel
theorem dX10_goesThrough_137 : decode cX10_goesThrough 137 = .ok (.imul, 1) := by decide +kernel
theorem dX10_goesThrough_138 : decode cX10_goesThrough 138 = .ok (.iload 9, 2) := by decide +kernel
theorem dX10_goesThrough_140 : decode cX10_goesThrough 140 = .ok (.iadd, 1) := by decide +kernel
theorem dX10_goesThrough_141 : decode cX10_goesThrough 141 = .ok (.iaload, 1) := by decide +kernel
theorem dX10_goesThrough_142 : decode cX10_goesThrough 142 = .ok (.iconst (-1), 1) := by decide +kernel
theorem dX10_goesThrough_143 : decode cX10_goesThrough 143 = .ok (.if_icmp .ne 6, 3) := by decide +kernel
theorem dX10_goesThrough_146 : decode cX10_goesThrough 146 = .ok (.goto 76, 3) := by decide +kernel
theorem dX10_goesThrough_149 : decode cX10_goesThrough 149 = .ok (.aload_n 0, 1) := by decide +kernel
theorem dX10_goesThrough_150 : decode cX10_goesThrough 150 = .ok (.aload_n 0, 1) := by decide +kernel
theorem dX10_goesThrough_151 : decode cX10_goesThrough 151 = .ok (.getfield 40, 3) := by decide +kernel
theorem dX10_goesThrough_154 : decode cX10_goesThrough 154 = .ok (.iload 9, 2) := by decide +kernel
theorem dX10_goesThrough_156 : decode cX10_goesThrough 156 = .ok (.iaload, 1) := by decide +kernel
theorem dX10_goesThrough_157 : decode cX10_goesThrough 157 = .ok (.aload_n 0, 1) := by decide +kernel
theorem dX10_goesThrough_158 : decode cX10_goesThrough 158 = .ok (.getfield 49, 3) := by decide +kernel
theorem dX10_goesThrough_161 : decode cX10_goesThrough 161 = .ok (.bipush 10, 2) := by decide +kernel
theorem dX10_goesThrough_163 : decode cX10_goesThrough 163 = .ok (.iload 8, 2) := by decide +kernel
theorem dX10_goesThrough_165 : decode cX10_goesThrough 165 = .ok (.imul, 1) := by decide +kernel
theorem dX10_goesThrough_166 : decode cX10_goesThrough 166 = .ok (.iload 9, 2) := by decide +kernel
theorem dX10_goesThrough_168 : decode cX10_goesThrough 168 = .ok (.iadd, 1) := by decide +kernel
theorem dX10_goesThrough_169 : decode cX10_goesThrough 169 = .ok (.iaload, 1) := by decide +kernel
theorem dX10_goesThrough_170 : decode cX10_goesThrough 170 = .ok (.aload_n 0, 1) := by decide +kernel
theorem dX10_goesThrough_171 : decode cX10_goesThrough 171 = .ok (.getfield 40, 3) := by decide +kernel
theorem dX10_goesThrough_174 : decode cX10_goesThrough 174 = .ok (.iload 6, 2) := by decide +kernel
theorem dX10_goesThrough_176 : decode cX10_goesThrough 176 = .ok (.iaload, 1) := by decide +kernel
theorem dX10_goesThrough_177 : decode cX10_goesThrough 177 = .ok (.iload 4, 2) := by decide +kernel
theorem dX10_goesThrough_179 : decode cX10_goesThrough 179 = .ok (.invokevirtual 405, 3) := by decide +kernel
theorem dX10_goesThrough_182 : decode cX10_goesThrough 182 = .ok (.istore 10, 2) := by decide +kernel
theorem dX10_goesThrough_184 : decode cX10_goesThrough 184 = .ok (.iload 10, 2) := by decide +kernel
theorem dX10_goesThrough_186 : decode cX10_goesThrough 186 = .ok (.iconst (-1), 1) := by decide +kernel
theorem dX10_goesThrough_187 : decode cX10_goesThrough 187 = .ok (.if_icmp .eq 35, 3) := by decide +kernel
theorem dX10_goesThrough_190 : decode cX10_goesThrough 190 = .ok (.aload_n 0, 1) := by decide +kernel
theorem dX10_goesThrough_191 : decode cX10_goesThrough 191 = .ok (.getfield 49, 3) := by decide +kernel
theorem dX10_goesThrough_194 : decode cX10_goesThrough 194 = .ok (.iload 7, 2) := by decide +kernel
theorem dX10_goesThrough_196 : decode cX10_goesThrough 196 = .ok (.iaload, 1) := by decide +kernel
theorem dX10_goesThrough_197 : decode cX10_goesThrough 197 = .ok (.iconst (-1), 1) := by decide +kernel
theorem dX10_goesThrough_198 : decode cX10_goesThrough 198 = .ok (.if_icmp .eq 15, 3) := by decide +kernel
theorem dX10_goesThrough_201 : decode cX10_goesThrough 201 = .ok (.iload 10, 2) := by decide +kernel
theorem dX10_goesThrough_203 : decode cX10_goesThrough 203 = .ok (.aload_n 0, 1) := by decide +kernel
theorem dX10_goesThrough_204 : decode cX10_goesThrough 204 = .ok (.getfield 49, 3) := by decide +kernel
theorem dX10_goesThrough_207 : decode cX10_goesThrough 207 = .ok (.iload 7, 2) := by decide +kernel
theorem dX10_goesThrough_209 : decode cX10_goesThrough 209 = .ok (.iaload, 1) := by decide +kernel
theorem dX10_goesThrough_210 : decode cX10_goesThrough 210 = .ok (.if_icmp .ge 12, 3) := by decide +kernel
theorem dX10_goesThrough_213 : decode cX10_goesThrough 213 = .ok (.aload_n 0, 1) := by decide +kernel
theorem dX10_goesThrough_214 : decode cX10_goesThrough 214 = .ok (.getfield 49, 3) := by decide +kernel
theorem dX10_goesThrough_217 : decode cX10_goesThrough 217 = .ok (.iload 7, 2) := by decide +kernel
theorem dX10_goesThrough_219 : decode cX10_goesThrough 219 = .ok (.iload 10, 2) := by decide +kernel
theorem dX10_goesThrough_221 : decode cX10_goesThrough 221 = .ok (.iastore, 1) := by decide +kernel
theorem dX10_goesThrough_222 : decode cX10_goesThrough 222 = .ok (.iinc 9 1, 3) := by decide +kernel
theorem dX10_goesThrough_225 : decode cX10_goesThrough 225 = .ok (.goto (-115), 3) := by decide +kernel
theorem dX10_goesThrough_228 : decode cX10_goesThrough 228 = .ok (.iinc 6 1, 3) := by decide +kernel
theorem dX10_goesThrough_231 : decode cX10_goesThrough 231 = .ok (.goto (-214), 3) := by decide +kernel
theorem dX10_goesThrough_234 : decode cX10_goesThrough 234 = .ok (.iinc 5 1, 3) := by decide +kernel
theorem dX10_goesThrough_237 : decode cX10_goesThrough 237 = .ok (.goto (-234), 3) := by decide +kernel
theorem dX10_goesThrough_240 : decode cX10_goesThrough 240 = .ok (.return_, 1) := by decide +kernel
theorem dX10_overOf_0 : decode cX10_overOf 0 = .ok (.iconst (-1), 1) := by decide +kernel
theorem dX10_overOf_1 : decode cX10_overOf 1 = .ok (.istore_n 2, 1) := by decide +kernel
theorem dX10_overOf_2 : decode cX10_overOf 2 = .ok (.iconst 0, 1) := by decide +kernel
theorem dX10_overOf_3 : decode cX10_overOf 3 = .ok (.istore_n 3, 1) := by decide +kernel
theorem dX10_overOf_4 : decode cX10_overOf 4 = .ok (.iload_n 3, 1) := by decide +kernel
theorem dX10_overOf_5 : decode cX10_overOf 5 = .ok (.aload_n 0, 1) := by decide +kernel
theorem dX10_overOf_6 : decode cX10_overOf 6 = .ok (.getfield 393, 3) := by decide +kernel
theorem dX10_overOf_9 : decode cX10_overOf 9 = .ok (.if_icmp .ge 42, 3) := by decide +kernel
theorem dX10_overOf_12 : decode cX10_overOf 12 = .ok (.aload_n 0, 1) := by decide +kernel
theorem dX10_overOf_13 : decode cX10_overOf 13 = .ok (.getfield 49, 3) := by decide +kernel
theorem dX10_overOf_16 : decode cX10_overOf 16 = .ok (.bipush 10, 2) := by decide +kernel
theorem dX10_overOf_18 : decode cX10_overOf 18 = .ok (.iload_n 1, 1) := by decide +kernel
theorem dX10_overOf_19 : decode cX10_overOf 19 = .ok (.imul, 1) := by decide +kernel
theorem dX10_overOf_20 : decode cX10_overOf 20 = .ok (.iload_n 3, 1) := by decide +kernel
theorem dX10_overOf_21 : decode cX10_overOf 21 = .ok (.iadd, 1) := by decide +kernel
theorem dX10_overOf_22 : decode cX10_overOf 22 = .ok (.iaload, 1) := by decide +kernel
theorem dX10_overOf_23 : decode cX10_overOf 23 = .ok (.istore 4, 2) := by decide +kernel
theorem dX10_overOf_25 : decode cX10_overOf 25 = .ok (.iload 4, 2) := by decide +kernel
theorem dX10_overOf_27 : decode cX10_overOf 27 = .ok (.iconst (-1), 1) := by decide +kernel
theorem dX10_overOf_28 : decode cX10_overOf 28 = .ok (.if_icmp .eq 17, 3) := by decide +kernel
theorem dX10_overOf_31 : decode cX10_overOf 31 = .ok (.iload_n 2, 1) := by decide +kernel
theorem dX10_overOf_32 : decode cX10_overOf 32 = .ok (.iconst (-1), 1) := by decide +kernel
theorem dX10_overOf_33 : decode cX10_overOf 33 = .ok (.if_icmp .eq 9, 3) := by decide +kernel
theorem dX10_overOf_36 : decode cX10_overOf 36 = .ok (.iload 4, 2) := by decide +kernel
theorem dX10_overOf_38 : decode cX10_overOf 38 = .ok (.iload_n 2, 1) := by decide +kernel
theorem dX10_overOf_39 : decode cX10_overOf 39 = .ok (.if_icmp .ge 6, 3) := by decide +kernel
theorem dX10_overOf_42 : decode cX10_overOf 42 = .ok (.iload 4, 2) := by decide +kernel
theorem dX10_overOf_44 : decode cX10_overOf 44 = .ok (.istore_n 2, 1) := by decide +kernel
theorem dX10_overOf_45 : decode cX10_overOf 45 = .ok (.iinc 3 1, 3) := by decide +kernel
theorem dX10_overOf_48 : decode cX10_overOf 48 = .ok (.goto (-44), 3) := by decide +kernel
theorem dX10_overOf_51 : decode cX10_overOf 51 = .ok (.iload_n 2, 1) := by decide +kernel
theorem dX10_overOf_52 : decode cX10_overOf 52 = .ok (.ireturn, 1) := by decide +kernel
theorem dX10_rounds_0 : decode cX10_rounds 0 = .ok (.aload_n 0, 1) := by decide +kernel
theorem dX10_rounds_1 : decode cX10_rounds 1 = .ok (.iload_n 1, 1) := by decide +kernel
theorem dX10_rounds_2 : decode cX10_rounds 2 = .ok (.invokevirtual 408, 3) := by decide +kernel
theorem dX10_rounds_5 : decode cX10_rounds 5 = .ok (.aload_n 0, 1) := by decide +kernel
theorem dX10_rounds_6 : decode cX10_rounds 6 = .ok (.iload_n 1, 1) := by decide +kernel
theorem dX10_rounds_7 : decode cX10_rounds 7 = .ok (.iconst 0, 1) := by decide +kernel
theorem dX10_rounds_8 : decode cX10_rounds 8 = .ok (.iconst 1, 1) := by decide +kernel
theorem dX10_rounds_9 : decode cX10_rounds 9 = .ok (.aload_n 0, 1) := by decide +kernel
theorem dX10_rounds_10 : decode cX10_rounds 10 = .ok (.getfield 393, 3) := by decide +kernel
theorem dX10_rounds_13 : decode cX10_rounds 13 = .ok (.ishl, 1) := by decide +kernel
theorem dX10_rounds_14 : decode cX10_rounds 14 = .ok (.iconst 1, 1) := by decide +kernel
theorem dX10_rounds_15 : decode cX10_rounds 15 = .ok (.isub, 1) := by decide +kernel
theorem dX10_rounds_16 : decode cX10_rounds 16 = .ok (.iload_n 2, 1) := by decide +kernel
theorem dX10_rounds_17 : decode cX10_rounds 17 = .ok (.invokevirtual 411, 3) := by decide +kernel
theorem dX10_rounds_20 : decode cX10_rounds 20 = .ok (.aload_n 0, 1) := by decide +kernel
theorem dX10_rounds_21 : decode cX10_rounds 21 = .ok (.iconst 0, 1) := by decide +kernel
theorem dX10_rounds_22 : decode cX10_rounds 22 = .ok (.putfield 415, 3) := by decide +kernel
theorem dX10_rounds_25 : decode cX10_rounds 25 = .ok (.aload_n 0, 1) := by decide +kernel
theorem dX10_rounds_26 : decode cX10_rounds 26 = .ok (.iconst 0, 1) := by decide +kernel
theorem dX10_rounds_27 : decode cX10_rounds 27 = .ok (.putfield 418, 3) := by decide +kernel
theorem dX10_rounds_30 : decode cX10_rounds 30 = .ok (.aload_n 0, 1) := by decide +kernel
theorem dX10_rounds_31 : decode cX10_rounds 31 = .ok (.iconst 0, 1) := by decide +kernel
theorem dX10_rounds_32 : decode cX10_rounds 32 = .ok (.putfield 421, 3) := by decide +kernel
theorem dX10_rounds_35 : decode cX10_rounds 35 = .ok (.iconst 1, 1) := by decide +kernel
theorem dX10_rounds_36 : decode cX10_rounds 36 = .ok (.istore_n 3, 1) := by decide +kernel
theorem dX10_rounds_37 : decode cX10_rounds 37 = .ok (.iload_n 3, 1) := by decide +kernel
theorem dX10_rounds_38 : decode cX10_rounds 38 = .ok (.iconst 1, 1) := by decide +kernel
theorem dX10_rounds_39 : decode cX10_rounds 39 = .ok (.aload_n 0, 1) := by decide +kernel
theorem dX10_rounds_40 : decode cX10_rounds 40 = .ok (.getfield 393, 3) := by decide +kernel
theorem dX10_rounds_43 : decode cX10_rounds 43 = .ok (.ishl, 1) := by decide +kernel
theorem dX10_rounds_44 : decode cX10_rounds 44 = .ok (.if_icmp .ge 123, 3) := by decide +kernel
theorem dX10_rounds_47 : decode cX10_rounds 47 = .ok (.aload_n 0, 1) := by decide +kernel
theorem dX10_rounds_48 : decode cX10_rounds 48 = .ok (.iload_n 3, 1) := by decide +kernel
theorem dX10_rounds_49 : decode cX10_rounds 49 = .ok (.invokevirtual 424, 3) := by decide +kernel
theorem dX10_rounds_52 : decode cX10_rounds 52 = .ok (.istore 4, 2) := by decide +kernel
theorem dX10_rounds_54 : decode cX10_rounds 54 = .ok (.iload 4, 2) := by decide +kernel
theorem dX10_rounds_56 : decode cX10_rounds 56 = .ok (.iconst (-1), 1) := by decide +kernel
theorem dX10_rounds_57 : decode cX10_rounds 57 = .ok (.if_icmp .ne 6, 3) := by decide +kernel
theorem dX10_rounds_60 : decode cX10_rounds 60 = .ok (.goto 101, 3) := by decide +kernel
theorem dX10_rounds_63 : decode cX10_rounds 63 = .ok (.iconst 0, 1) := by decide +kernel
theorem dX10_rounds_64 : decode cX10_rounds 64 = .ok (.istore 5, 2) := by decide +kernel
theorem dX10_rounds_66 : decode cX10_rounds 66 = .ok (.iconst 0, 1) := by decide +kernel
theorem dX10_rounds_67 : decode cX10_rounds 67 = .ok (.istore 6, 2) := by decide +kernel
theorem dX10_rounds_69 : decode cX10_rounds 69 = .ok (.iload 6, 2) := by decide +kernel
theorem dX10_rounds_71 : decode cX10_rounds 71 = .ok (.aload_n 0, 1) := by decide +kernel
theorem dX10_rounds_72 : decode cX10_rounds 72 = .ok (.getfield 393, 3) := by decide +kernel
theorem dX10_rounds_75 : decode cX10_rounds 75 = .ok (.if_icmp .ge 39, 3) := by decide +kernel
theorem dX10_rounds_78 : decode cX10_rounds 78 = .ok (.iload 5, 2) := by decide +kernel
theorem dX10_rounds_80 : decode cX10_rounds 80 = .ok (.iload_n 3, 1) := by decide +kernel
theorem dX10_rounds_81 : decode cX10_rounds 81 = .ok (.iload 6, 2) := by decide +kernel
theorem dX10_rounds_83 : decode cX10_rounds 83 = .ok (.invokestatic 294, 3) := by decide +kernel
theorem dX10_rounds_86 : decode cX10_rounds 86 = .ok (.ifCond .eq 18, 3) := by decide +kernel
theorem dX10_rounds_89 : decode cX10_rounds 89 = .ok (.aload_n 0, 1) := by decide +kernel
theorem dX10_rounds_90 : decode cX10_rounds 90 = .ok (.getfield 43, 3) := by decide +kernel
theorem dX10_rounds_93 : decode cX10_rounds 93 = .ok (.aload_n 0, 1) := by decide +kernel
theorem dX10_rounds_94 : decode cX10_rounds 94 = .ok (.getfield 40, 3) := by decide +kernel
theorem dX10_rounds_97 : decode cX10_rounds 97 = .ok (.iload 6, 2) := by decide +kernel
theorem dX10_rounds_99 : decode cX10_rounds 99 = .ok (.iaload, 1) := by decide +kernel
theorem dX10_rounds_100 : decode cX10_rounds 100 = .ok (.iaload, 1) := by decide +kernel
theorem dX10_rounds_101 : decode cX10_rounds 101 = .ok (.goto 4, 3) := by decide +kernel
theorem dX10_rounds_104 : decode cX10_rounds 104 = .ok (.iconst 0, 1) := by decide +kernel
theorem dX10_rounds_105 : decode cX10_rounds 105 = .ok (.iadd, 1) := by decide +kernel
theorem dX10_rounds_106 : decode cX10_rounds 106 = .ok (.istore 5, 2) := by decide +kernel
theorem dX10_rounds_108 : decode cX10_rounds 108 = .ok (.iinc 6 1, 3) := by decide +kernel
theorem dX10_rounds_111 : decode cX10_rounds 111 = .ok (.goto (-42), 3) := by decide +kernel
theorem dX10_rounds_114 : decode cX10_rounds 114 = .ok (.iload 5, 2) := by decide +kernel
theorem dX10_rounds_116 : decode cX10_rounds 116 = .ok (.aload_n 0, 1) := by decide +kernel
theorem dX10_rounds_117 : decode cX10_rounds 117 = .ok (.getfield 421, 3) := by decide +kernel
theorem dX10_rounds_120 : decode cX10_rounds 120 = .ok (.if_icmp .lt 41, 3) := by decide +kernel
theorem dX10_rounds_123 : decode cX10_rounds 123 = .ok (.iload 5, 2) := by decide +kernel
theorem dX10_rounds_125 : decode cX10_rounds 125 = .ok (.aload_n 0, 1) := by decide +kernel
theorem dX10_rounds_126 : decode cX10_rounds 126 = .ok (.getfield 421, 3) := by decide +kernel
theorem dX10_rounds_129 : decode cX10_rounds 129 = .ok (.if_icmp .ne 15, 3) := by decide +kernel
theorem dX10_rounds_132 : decode cX10_rounds 132 = .ok (.iload 4, 2) := by decide +kernel
theorem dX10_rounds_134 : decode cX10_rounds 134 = .ok (.aload_n 0, 1) := by decide +kernel
theorem dX10_rounds_135 : decode cX10_rounds 135 = .ok (.getfield 418, 3) := by decide +kernel
theorem dX10_rounds_138 : decode cX10_rounds 138 = .ok (.if_icmp .lt 6, 3) := by decide +kernel
theorem dX10_rounds_141 : decode cX10_rounds 141 = .ok (.goto 20, 3) := by decide +kernel
theorem dX10_rounds_144 : decode cX10_rounds 144 = .ok (.aload_n 0, 1) := by decide +kernel
theorem dX10_rounds_145 : decode cX10_rounds 145 = .ok (.iload_n 3, 1) := by decide +kernel
theorem dX10_rounds_146 : decode cX10_rounds 146 = .ok (.putfield 415, 3) := by decide +kernel
theorem dX10_rounds_149 : decode cX10_rounds 149 = .ok (.aload_n 0, 1) := by decide +kernel
theorem dX10_rounds_150 : decode cX10_rounds 150 = .ok (.iload 4, 2) := by decide +kernel
theorem dX10_rounds_152 : decode cX10_rounds 152 = .ok (.putfield 418, 3) := by decide +kernel
theorem dX10_rounds_155 : decode cX10_rounds 155 = .ok (.aload_n 0, 1) := by decide +kernel
theorem dX10_rounds_156 : decode cX10_rounds 156 = .ok (.iload 5, 2) := by decide +kernel
theorem dX10_rounds_158 : decode cX10_rounds 158 = .ok (.putfield 421, 3) := by decide +kernel
theorem dX10_rounds_161 : decode cX10_rounds 161 = .ok (.iinc 3 1, 3) := by decide +kernel
theorem dX10_rounds_164 : decode cX10_rounds 164 = .ok (.goto (-127), 3) := by decide +kernel
theorem dX10_rounds_167 : decode cX10_rounds 167 = .ok (.return_, 1) := by decide +kernel
theorem dX10_isRound_0 : decode cX10_isRound 0 = .ok (.aload_n 0, 1) := by decide +kernel
theorem dX10_isRound_1 : decode cX10_isRound 1 = .ok (.iload_n 1, 1) := by decide +kernel
theorem dX10_isRound_2 : decode cX10_isRound 2 = .ok (.invokevirtual 105, 3) := by decide +kernel
theorem dX10_isRound_5 : decode cX10_isRound 5 = .ok (.ifCond .eq 23, 3) := by decide +kernel
theorem dX10_isRound_8 : decode cX10_isRound 8 = .ok (.iload_n 2, 1) := by decide +kernel
theorem dX10_isRound_9 : decode cX10_isRound 9 = .ok (.i2l, 1) := by decide +kernel
theorem dX10_isRound_10 : decode cX10_isRound 10 = .ok (.aload_n 0, 1) := by decide +kernel
theorem dX10_isRound_11 : decode cX10_isRound 11 = .ok (.invokevirtual 291, 3) := by decide +kernel
theorem dX10_isRound_14 : decode cX10_isRound 14 = .ok (.i2l, 1) := by decide +kernel
theorem dX10_isRound_15 : decode cX10_isRound 15 = .ok (.ldc2_w 427, 3) := by decide +kernel
theorem dX10_isRound_18 : decode cX10_isRound 18 = .ok (.invokestatic 101, 3) := by decide +kernel
theorem dX10_isRound_21 : decode cX10_isRound 21 = .ok (.ifCond .eq 7, 3) := by decide +kernel
theorem dX10_isRound_24 : decode cX10_isRound 24 = .ok (.iconst 1, 1) := by decide +kernel
theorem dX10_isRound_25 : decode cX10_isRound 25 = .ok (.goto 4, 3) := by decide +kernel
theorem dX10_isRound_28 : decode cX10_isRound 28 = .ok (.iconst 0, 1) := by decide +kernel
theorem dX10_isRound_29 : decode cX10_isRound 29 = .ok (.ireturn, 1) := by decide +kernel
theorem dX10_worth_0 : decode cX10_worth 0 = .ok (.aload_n 0, 1) := by decide +kernel
theorem dX10_worth_1 : decode cX10_worth 1 = .ok (.iload_n 1, 1) := by decide +kernel
theorem dX10_worth_2 : decode cX10_worth 2 = .ok (.iload_n 2, 1) := by decide +kernel
theorem dX10_worth_3 : decode cX10_worth 3 = .ok (.invokevirtual 429, 3) := by decide +kernel
theorem dX10_worth_6 : decode cX10_worth 6 = .ok (.ifCond .ne 6, 3) := by decide +kernel
theorem dX10_worth_9 : decode cX10_worth 9 = .ok (.bipush (-2), 2) := by decide +kernel
theorem dX10_worth_11 : decode cX10_worth 11 = .ok (.ireturn, 1) := by decide +kernel
theorem dX10_worth_12 : decode cX10_worth 12 = .ok (.aload_n 0, 1) := by decide +kernel
theorem dX10_worth_13 : decode cX10_worth 13 = .ok (.iload_n 1, 1) := by decide +kernel
theorem dX10_worth_14 : decode cX10_worth 14 = .ok (.iload_n 2, 1) := by decide +kernel
theorem dX10_worth_15 : decode cX10_worth 15 = .ok (.invokevirtual 432, 3) := by decide +kernel
theorem dX10_worth_18 : decode cX10_worth 18 = .ok (.aload_n 0, 1) := by decide +kernel
theorem dX10_worth_19 : decode cX10_worth 19 = .ok (.getfield 421, 3) := by decide +kernel
theorem dX10_worth_22 : decode cX10_worth 22 = .ok (.ireturn, 1) := by decide +kernel
theorem dX10_over_0 : decode cX10_over 0 = .ok (.aload_n 0, 1) := by decide +kernel
theorem dX10_over_1 : decode cX10_over 1 = .ok (.iload_n 1, 1) := by decide +kernel
theorem dX10_over_2 : decode cX10_over 2 = .ok (.iload_n 2, 1) := by decide +kernel
theorem dX10_over_3 : decode cX10_over 3 = .ok (.invokevirtual 429, 3) := by decide +kernel
theorem dX10_over_6 : decode cX10_over 6 = .ok (.ifCond .ne 6, 3) := by decide +kernel
theorem dX10_over_9 : decode cX10_over 9 = .ok (.bipush (-2), 2) := by decide +kernel
theorem dX10_over_11 : decode cX10_over 11 = .ok (.ireturn, 1) := by decide +kernel
theorem dX10_over_12 : decode cX10_over 12 = .ok (.aload_n 0, 1) := by decide +kernel
theorem dX10_over_13 : decode cX10_over 13 = .ok (.iload_n 1, 1) := by decide +kernel
theorem dX10_over_14 : decode cX10_over 14 = .ok (.iload_n 2, 1) := by decide +kernel
theorem dX10_over_15 : decode cX10_over 15 = .ok (.invokevirtual 432, 3) := by decide +kernel
theorem dX10_over_18 : decode cX10_over 18 = .ok (.aload_n 0, 1) := by decide +kernel
theorem dX10_over_19 : decode cX10_over 19 = .ok (.getfield 418, 3) := by decide +kernel
theorem dX10_over_22 : decode cX10_over 22 = .ok (.ireturn, 1) := by decide +kernel
theorem dX10_rowOf_0 : decode cX10_rowOf 0 = .ok (.iload_n 1, 1) := by decide +kernel
theorem dX10_rowOf_1 : decode cX10_rowOf 1 = .ok (.istore_n 3, 1) := by decide +kernel
theorem dX10_rowOf_2 : decode cX10_rowOf 2 = .ok (.iconst 0, 1) := by decide +kernel
theorem dX10_rowOf_3 : decode cX10_rowOf 3 = .ok (.istore 4, 2) := by decide +kernel
theorem dX10_rowOf_5 : decode cX10_rowOf 5 = .ok (.aload_n 0, 1) := by decide +kernel
theorem dX10_rowOf_6 : decode cX10_rowOf 6 = .ok (.getfield 415, 3) := by decide +kernel
theorem dX10_rowOf_9 : decode cX10_rowOf 9 = .ok (.istore 5, 2) := by decide +kernel
theorem dX10_rowOf_11 : decode cX10_rowOf 11 = .ok (.iconst 0, 1) := by decide +kernel
theorem dX10_rowOf_12 : decode cX10_rowOf 12 = .ok (.istore 6, 2) := by decide +kernel
theorem dX10_rowOf_14 : decode cX10_rowOf 14 = .ok (.iload 5, 2) := by decide +kernel
theorem dX10_rowOf_16 : decode cX10_rowOf 16 = .ok (.ifCond .eq 181, 3) := by decide +kernel
theorem dX10_rowOf_19 : decode cX10_rowOf 19 = .ok (.iconst (-1), 1) := by decide +kernel
theorem dX10_rowOf_20 : decode cX10_rowOf 20 = .ok (.istore 7, 2) := by decide +kernel
theorem dX10_rowOf_22 : decode cX10_rowOf 22 = .ok (.iconst 0, 1) := by decide +kernel
theorem dX10_rowOf_23 : decode cX10_rowOf 23 = .ok (.istore 8, 2) := by decide +kernel
theorem dX10_rowOf_25 : decode cX10_rowOf 25 = .ok (.iconst 0, 1) := by decide +kernel
theorem dX10_rowOf_26 : decode cX10_rowOf 26 = .ok (.istore 9, 2) := by decide +kernel
theorem dX10_rowOf_28 : decode cX10_rowOf 28 = .ok (.iload 9, 2) := by decide +kernel
theorem dX10_rowOf_30 : decode cX10_rowOf 30 = .ok (.aload_n 0, 1) := by decide +kernel
theorem dX10_rowOf_31 : decode cX10_rowOf 31 = .ok (.getfield 393, 3) := by decide +kernel
theorem dX10_rowOf_34 : decode cX10_rowOf 34 = .ok (.if_icmp .ge 120, 3) := by decide +kernel
theorem dX10_rowOf_37 : decode cX10_rowOf 37 = .ok (.iload 7, 2) := by decide +kernel
theorem dX10_rowOf_39 : decode cX10_rowOf 39 = .ok (.iconst (-1), 1) := by decide +kernel
theorem dX10_rowOf_40 : decode cX10_rowOf 40 = .ok (.if_icmp .ne 114, 3) := by decide +kernel
theorem dX10_rowOf_43 : decode cX10_rowOf 43 = .ok (.iload 5, 2) := by decide +kernel
theorem dX10_rowOf_45 : decode cX10_rowOf 45 = .ok (.iload 9, 2) := by decide +kernel
theorem dX10_rowOf_47 : decode cX10_rowOf 47 = .ok (.invokestatic 294, 3) := by decide +kernel
theorem dX10_rowOf_50 : decode cX10_rowOf 50 = .ok (.ifCond .ne 6, 3) := by decide +kernel
theorem dX10_rowOf_53 : decode cX10_rowOf 53 = .ok (.goto 95, 3) := by decide +kernel
theorem dX10_rowOf_56 : decode cX10_rowOf 56 = .ok (.aload_n 0, 1) := by decide +kernel
theorem dX10_rowOf_57 : decode cX10_rowOf 57 = .ok (.iload_n 3, 1) := by decide +kernel
theorem dX10_rowOf_58 : decode cX10_rowOf 58 = .ok (.iload 4, 2) := by decide +kernel
theorem dX10_rowOf_60 : decode cX10_rowOf 60 = .ok (.aload_n 0, 1) := by decide +kernel
theorem dX10_rowOf_61 : decode cX10_rowOf 61 = .ok (.getfield 40, 3) := by decide +kernel
theorem dX10_rowOf_64 : decode cX10_rowOf 64 = .ok (.iload 9, 2) := by decide +kernel
theorem dX10_rowOf_66 : decode cX10_rowOf 66 = .ok (.iaload, 1) := by decide +kernel
theorem dX10_rowOf_67 : decode cX10_rowOf 67 = .ok (.iload_n 2, 1) := by decide +kernel
theorem dX10_rowOf_68 : decode cX10_rowOf 68 = .ok (.invokevirtual 405, 3) := by decide +kernel
theorem dX10_rowOf_71 : decode cX10_rowOf 71 = .ok (.istore 10, 2) := by decide +kernel
theorem dX10_rowOf_73 : decode cX10_rowOf 73 = .ok (.iload 5, 2) := by decide +kernel
theorem dX10_rowOf_75 : decode cX10_rowOf 75 = .ok (.iconst 1, 1) := by decide +kernel
theorem dX10_rowOf_76 : decode cX10_rowOf 76 = .ok (.iload 9, 2) := by decide +kernel
theorem dX10_rowOf_78 : decode cX10_rowOf 78 = .ok (.ishl, 1) := by decide +kernel
theorem dX10_rowOf_79 : decode cX10_rowOf 79 = .ok (.iconst (-1), 1) := by decide +kernel
theorem dX10_rowOf_80 : decode cX10_rowOf 80 = .ok (.ixor, 1) := by decide +kernel
theorem dX10_rowOf_81 : decode cX10_rowOf 81 = .ok (.iand, 1) := by decide +kernel
theorem dX10_rowOf_82 : decode cX10_rowOf 82 = .ok (.istore 11, 2) := by decide +kernel
theorem dX10_rowOf_84 : decode cX10_rowOf 84 = .ok (.iload 10, 2) := by decide +kernel
theorem dX10_rowOf_86 : decode cX10_rowOf 86 = .ok (.iconst (-1), 1) := by decide +kernel
theorem dX10_rowOf_87 : decode cX10_rowOf 87 = .ok (.if_icmp .ne 6, 3) := by decide +kernel
theorem dX10_rowOf_90 : decode cX10_rowOf 90 = .ok (.goto 58, 3) := by decide +kernel
theorem dX10_rowOf_93 : decode cX10_rowOf 93 = .ok (.iload 11, 2) := by decide +kernel
theorem dX10_rowOf_95 : decode cX10_rowOf 95 = .ok (.ifCond .eq 19, 3) := by decide +kernel
theorem dX10_rowOf_98 : decode cX10_rowOf 98 = .ok (.aload_n 0, 1) := by decide +kernel
theorem dX10_rowOf_99 : decode cX10_rowOf 99 = .ok (.aload_n 0, 1) := by decide +kernel
theorem dX10_rowOf_100 : decode cX10_rowOf 100 = .ok (.getfield 40, 3) := by decide +kernel
theorem dX10_rowOf_103 : decode cX10_rowOf 103 = .ok (.iload 9, 2) := by decide +kernel
theorem dX10_rowOf_105 : decode cX10_rowOf 105 = .ok (.iaload, 1) := by decide +kernel
theorem dX10_rowOf_106 : decode cX10_rowOf 106 = .ok (.iload 10, 2) := by decide +kernel
theorem dX10_rowOf_108 : decode cX10_rowOf 108 = .ok (.iload 11, 2) := by decide +kernel
theorem dX10_rowOf_110 : decode cX10_rowOf 110 = .ok (.iload_n 2, 1) := by decide +kernel
theorem dX10_rowOf_111 : decode cX10_rowOf 111 = .ok (.invokevirtual 411, 3) := by decide +kernel
theorem dX10_rowOf_114 : decode cX10_rowOf 114 = .ok (.iload 11, 2) := by decide +kernel
theorem dX10_rowOf_116 : decode cX10_rowOf 116 = .ok (.ifCond .ne 8, 3) := by decide +kernel
theorem dX10_rowOf_119 : decode cX10_rowOf 119 = .ok (.iload 10, 2) := by decide +kernel
theorem dX10_rowOf_121 : decode cX10_rowOf 121 = .ok (.goto 9, 3) := by decide +kernel
theorem dX10_rowOf_124 : decode cX10_rowOf 124 = .ok (.aload_n 0, 1) := by decide +kernel
theorem dX10_rowOf_125 : decode cX10_rowOf 125 = .ok (.iload 11, 2) := by decide +kernel
theorem dX10_rowOf_127 : decode cX10_rowOf 127 = .ok (.invokevirtual 424, 3) := by decide +kernel
theorem dX10_rowOf_130 : decode cX10_rowOf 130 = .ok (.aload_n 0, 1) := by decide +kernel
theorem dX10_rowOf_131 : decode cX10_rowOf 131 = .ok (.getfield 418, 3) := by decide +kernel
theorem dX10_rowOf_134 : decode cX10_rowOf 134 = .ok (.if_icmp .eq 6, 3) := by decide +kernel
theorem dX10_rowOf_137 : decode cX10_rowOf 137 = .ok (.goto 11, 3) := by decide +kernel
theorem dX10_rowOf_140 : decode cX10_rowOf 140 = .ok (.iload 9, 2) := by decide +kernel
theorem dX10_rowOf_142 : decode cX10_rowOf 142 = .ok (.istore 7, 2) := by decide +kernel
theorem dX10_rowOf_144 : decode cX10_rowOf 144 = .ok (.iload 10, 2) := by decide +kernel
theorem dX10_rowOf_146 : decode cX10_rowOf 146 = .ok (.istore 8, 2) := by decide +kernel
theorem dX10_rowOf_148 : decode cX10_rowOf 148 = .ok (.iinc 9 1, 3) := by decide +kernel
theorem dX10_rowOf_151 : decode cX10_rowOf 151 = .ok (.goto (-123), 3) := by decide +kernel
theorem dX10_rowOf_154 : decode cX10_rowOf 154 = .ok (.aload_n 0, 1) := by decide +kernel
theorem dX10_rowOf_155 : decode cX10_rowOf 155 = .ok (.getfield 52, 3) := by decide +kernel
theorem dX10_rowOf_158 : decode cX10_rowOf 158 = .ok (.iload 6, 2) := by decide +kernel
theorem dX10_rowOf_160 : decode cX10_rowOf 160 = .ok (.aload_n 0, 1) := by decide +kernel
theorem dX10_rowOf_161 : decode cX10_rowOf 161 = .ok (.getfield 40, 3) := by decide +kernel
theorem dX10_rowOf_164 : decode cX10_rowOf 164 = .ok (.iload 7, 2) := by decide +kernel
theorem dX10_rowOf_166 : decode cX10_rowOf 166 = .ok (.iaload, 1) := by decide +kernel
theorem dX10_rowOf_167 : decode cX10_rowOf 167 = .ok (.iastore, 1) := by decide +kernel
theorem dX10_rowOf_168 : decode cX10_rowOf 168 = .ok (.iinc 6 1, 3) := by decide +kernel
theorem dX10_rowOf_171 : decode cX10_rowOf 171 = .ok (.aload_n 0, 1) := by decide +kernel
theorem dX10_rowOf_172 : decode cX10_rowOf 172 = .ok (.getfield 40, 3) := by decide +kernel
theorem dX10_rowOf_175 : decode cX10_rowOf 175 = .ok (.iload 7, 2) := by decide +kernel
theorem dX10_rowOf_177 : decode cX10_rowOf 177 = .ok (.iaload, 1) := by decide +kernel
theorem dX10_rowOf_178 : decode cX10_rowOf 178 = .ok (.istore_n 3, 1) := by decide +kernel
theorem dX10_rowOf_179 : decode cX10_rowOf 179 = .ok (.iload 8, 2) := by decide +kernel
theorem dX10_rowOf_181 : decode cX10_rowOf 181 = .ok (.istore 4, 2) := by decide +kernel
theorem dX10_rowOf_183 : decode cX10_rowOf 183 = .ok (.iload 5, 2) := by decide +kernel
theorem dX10_rowOf_185 : decode cX10_rowOf 185 = .ok (.iconst 1, 1) := by decide +kernel
theorem dX10_rowOf_186 : decode cX10_rowOf 186 = .ok (.iload 7, 2) := by decide +kernel
theorem dX10_rowOf_188 : decode cX10_rowOf 188 = .ok (.ishl, 1) := by decide +kernel
theorem dX10_rowOf_189 : decode cX10_rowOf 189 = .ok (.iconst (-1), 1) := by decide +kernel
theorem dX10_rowOf_190 : decode cX10_rowOf 190 = .ok (.ixor, 1) := by decide +kernel
theorem dX10_rowOf_191 : decode cX10_rowOf 191 = .ok (.iand, 1) := by decide +kernel
theorem dX10_rowOf_192 : decode cX10_rowOf 192 = .ok (.istore 5, 2) := by decide +kernel
theorem dX10_rowOf_194 : decode cX10_rowOf 194 = .ok (.goto (-180), 3) := by decide +kernel
theorem dX10_rowOf_197 : decode cX10_rowOf 197 = .ok (.return_, 1) := by decide +kernel
theorem dX10_round_0 : decode cX10_round 0 = .ok (.aload_n 0, 1) := by decide +kernel
theorem dX10_round_1 : decode cX10_round 1 = .ok (.iload_n 1, 1) := by decide +kernel
theorem dX10_round_2 : decode cX10_round 2 = .ok (.iload_n 2, 1) := by decide +kernel
theorem dX10_round_3 : decode cX10_round 3 = .ok (.invokevirtual 429, 3) := by decide +kernel
theorem dX10_round_6 : decode cX10_round 6 = .ok (.ifCond .ne 6, 3) := by decide +kernel
theorem dX10_round_9 : decode cX10_round 9 = .ok (.bipush (-2), 2) := by decide +kernel
theorem dX10_round_11 : decode cX10_round 11 = .ok (.ireturn, 1) := by decide +kernel
theorem dX10_round_12 : decode cX10_round 12 = .ok (.aload_n 0, 1) := by decide +kernel
theorem dX10_round_13 : decode cX10_round 13 = .ok (.iload_n 1, 1) := by decide +kernel
theorem dX10_round_14 : decode cX10_round 14 = .ok (.iload_n 2, 1) := by decide +kernel
theorem dX10_round_15 : decode cX10_round 15 = .ok (.invokevirtual 432, 3) := by decide +kernel
theorem dX10_round_18 : decode cX10_round 18 = .ok (.aload_n 0, 1) := by decide +kernel
theorem dX10_round_19 : decode cX10_round 19 = .ok (.getfield 415, 3) := by decide +kernel
theorem dX10_round_22 : decode cX10_round 22 = .ok (.invokestatic 298, 3) := by decide +kernel
theorem dX10_round_25 : decode cX10_round 25 = .ok (.istore 4, 2) := by decide +kernel
theorem dX10_round_27 : decode cX10_round 27 = .ok (.iload_n 3, 1) := by decide +kernel
theorem dX10_round_28 : decode cX10_round 28 = .ok (.i2l, 1) := by decide +kernel
theorem dX10_round_29 : decode cX10_round 29 = .ok (.lconst 0, 1) := by decide +kernel
theorem dX10_round_30 : decode cX10_round 30 = .ok (.iload 4, 2) := by decide +kernel
theorem dX10_round_32 : decode cX10_round 32 = .ok (.iconst 1, 1) := by decide +kernel
theorem dX10_round_33 : decode cX10_round 33 = .ok (.isub, 1) := by decide +kernel
theorem dX10_round_34 : decode cX10_round 34 = .ok (.i2l, 1) := by decide +kernel
theorem dX10_round_35 : decode cX10_round 35 = .ok (.invokestatic 101, 3) := by decide +kernel
theorem dX10_round_38 : decode cX10_round 38 = .ok (.ifCond .ne 5, 3) := by decide +kernel
theorem dX10_round_41 : decode cX10_round 41 = .ok (.iconst (-1), 1) := by decide +kernel
theorem dX10_round_42 : decode cX10_round 42 = .ok (.ireturn, 1) := by decide +kernel
theorem dX10_round_43 : decode cX10_round 43 = .ok (.aload_n 0, 1) := by decide +kernel
theorem dX10_round_44 : decode cX10_round 44 = .ok (.iload_n 1, 1) := by decide +kernel
theorem dX10_round_45 : decode cX10_round 45 = .ok (.iload_n 2, 1) := by decide +kernel
theorem dX10_round_46 : decode cX10_round 46 = .ok (.invokevirtual 435, 3) := by decide +kernel
theorem dX10_round_49 : decode cX10_round 49 = .ok (.aload_n 0, 1) := by decide +kernel
theorem dX10_round_50 : decode cX10_round 50 = .ok (.getfield 52, 3) := by decide +kernel
theorem dX10_round_53 : decode cX10_round 53 = .ok (.iload_n 3, 1) := by decide +kernel
theorem dX10_round_54 : decode cX10_round 54 = .ok (.iaload, 1) := by decide +kernel
theorem dX10_round_55 : decode cX10_round 55 = .ok (.ireturn, 1) := by decide +kernel
theorem dX10_may_0 : decode cX10_may 0 = .ok (.iload_n 1, 1) := by decide +kernel
theorem dX10_may_1 : decode cX10_may 1 = .ok (.invokestatic 371, 3) := by decide +kernel
theorem dX10_may_4 : decode cX10_may 4 = .ok (.ifCond .eq 12, 3) := by decide +kernel
theorem dX10_may_7 : decode cX10_may 7 = .ok (.aload_n 0, 1) := by decide +kernel
theorem dX10_may_8 : decode cX10_may 8 = .ok (.iload_n 2, 1) := by decide +kernel
theorem dX10_may_9 : decode cX10_may 9 = .ok (.iload_n 3, 1) := by decide +kernel
theorem dX10_may_10 : decode cX10_may 10 = .ok (.invokevirtual 429, 3) := by decide +kernel
theorem dX10_may_13 : decode cX10_may 13 = .ok (.ifCond .ne 6, 3) := by decide +kernel
theorem dX10_may_16 : decode cX10_may 16 = .ok (.bipush (-2), 2) := by decide +kernel
theorem dX10_may_18 : decode cX10_may 18 = .ok (.ireturn, 1) := by decide +kernel
theorem dX10_may_19 : decode cX10_may 19 = .ok (.aload_n 0, 1) := by decide +kernel
theorem dX10_may_20 : decode cX10_may 20 = .ok (.getfield 86, 3) := by decide +kernel
theorem dX10_may_23 : decode cX10_may 23 = .ok (.iload_n 1, 1) := by decide +kernel
theorem dX10_may_24 : decode cX10_may 24 = .ok (.iaload, 1) := by decide +kernel
theorem dX10_may_25 : decode cX10_may 25 = .ok (.iconst (-1), 1) := by decide +kernel
theorem dX10_may_26 : decode cX10_may 26 = .ok (.if_icmp .ne 6, 3) := by decide +kernel
theorem dX10_may_29 : decode cX10_may 29 = .ok (.bipush (-6), 2) := by decide +kernel
theorem dX10_may_31 : decode cX10_may 31 = .ok (.ireturn, 1) := by decide +kernel
theorem dX10_may_32 : decode cX10_may 32 = .ok (.aload_n 0, 1) := by decide +kernel
theorem dX10_may_33 : decode cX10_may 33 = .ok (.iload_n 2, 1) := by decide +kernel
theorem dX10_may_34 : decode cX10_may 34 = .ok (.invokevirtual 390, 3) := by decide +kernel
theorem dX10_may_37 : decode cX10_may 37 = .ok (.iconst 0, 1) := by decide +kernel
theorem dX10_may_38 : decode cX10_may 38 = .ok (.istore 4, 2) := by decide +kernel
theorem dX10_may_40 : decode cX10_may 40 = .ok (.iload_n 2, 1) := by decide +kernel
