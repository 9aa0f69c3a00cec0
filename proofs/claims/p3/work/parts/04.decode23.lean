theorem dX10_lost_97 : decode cX10_lost 97 = .ok (.iconst 1, 1) := by decide +kernel
theorem dX10_lost_98 : decode cX10_lost 98 = .ok (.goto 4, 3) := by decide +kernel
theorem dX10_lost_101 : decode cX10_lost 101 = .ok (.iconst 0, 1) := by decide +kernel
theorem dX10_lost_102 : decode cX10_lost 102 = .ok (.istore 4, 2) := by decide +kernel
theorem dX10_lost_104 : decode cX10_lost 104 = .ok (.iinc 5 1, 3) := by decide +kernel
theorem dX10_lost_107 : decode cX10_lost 107 = .ok (.goto (-70), 3) := by decide +kernel
theorem dX10_lost_110 : decode cX10_lost 110 = .ok (.iload_n 2, 1) := by decide +kernel
theorem dX10_lost_111 : decode cX10_lost 111 = .ok (.iload 4, 2) := by decide +kernel
theorem dX10_lost_113 : decode cX10_lost 113 = .ok (.ifCond .eq 7, 3) := by decide +kernel
theorem dX10_lost_116 : decode cX10_lost 116 = .ok (.iconst 0, 1) := by decide +kernel
theorem dX10_lost_117 : decode cX10_lost 117 = .ok (.goto 6, 3) := by decide +kernel
theorem dX10_lost_120 : decode cX10_lost 120 = .ok (.iconst 1, 1) := by decide +kernel
theorem dX10_lost_121 : decode cX10_lost 121 = .ok (.iload_n 3, 1) := by decide +kernel
theorem dX10_lost_122 : decode cX10_lost 122 = .ok (.ishl, 1) := by decide +kernel
theorem dX10_lost_123 : decode cX10_lost 123 = .ok (.ior, 1) := by decide +kernel
theorem dX10_lost_124 : decode cX10_lost 124 = .ok (.istore_n 2, 1) := by decide +kernel
theorem dX10_lost_125 : decode cX10_lost 125 = .ok (.iinc 3 1, 3) := by decide +kernel
theorem dX10_lost_128 : decode cX10_lost 128 = .ok (.goto (-108), 3) := by decide +kernel
theorem dX10_lost_131 : decode cX10_lost 131 = .ok (.iload_n 2, 1) := by decide +kernel
theorem dX10_lost_132 : decode cX10_lost 132 = .ok (.ireturn, 1) := by decide +kernel
theorem dX10_finds_0 : decode cX10_finds 0 = .ok (.iconst 0, 1) := by decide +kernel
theorem dX10_finds_1 : decode cX10_finds 1 = .ok (.istore_n 3, 1) := by decide +kernel
theorem dX10_finds_2 : decode cX10_finds 2 = .ok (.iload_n 3, 1) := by decide +kernel
theorem dX10_finds_3 : decode cX10_finds 3 = .ok (.aload_n 0, 1) := by decide +kernel
theorem dX10_finds_4 : decode cX10_finds 4 = .ok (.getfield 74, 3) := by decide +kernel
theorem dX10_finds_7 : decode cX10_finds 7 = .ok (.arraylength, 1) := by decide +kernel
theorem dX10_finds_8 : decode cX10_finds 8 = .ok (.if_icmp .ge 16, 3) := by decide +kernel
theorem dX10_finds_11 : decode cX10_finds 11 = .ok (.aload_n 0, 1) := by decide +kernel
theorem dX10_finds_12 : decode cX10_finds 12 = .ok (.getfield 74, 3) := by decide +kernel
theorem dX10_finds_15 : decode cX10_finds 15 = .ok (.iload_n 3, 1) := by decide +kernel
theorem dX10_finds_16 : decode cX10_finds 16 = .ok (.iconst 0, 1) := by decide +kernel
theorem dX10_finds_17 : decode cX10_finds 17 = .ok (.bastore, 1) := by decide +kernel
theorem dX10_finds_18 : decode cX10_finds 18 = .ok (.iinc 3 1, 3) := by decide +kernel
theorem dX10_finds_21 : decode cX10_finds 21 = .ok (.goto (-19), 3) := by decide +kernel
theorem dX10_finds_24 : decode cX10_finds 24 = .ok (.iconst 0, 1) := by decide +kernel
theorem dX10_finds_25 : decode cX10_finds 25 = .ok (.istore_n 3, 1) := by decide +kernel
theorem dX10_finds_26 : decode cX10_finds 26 = .ok (.iconst 1, 1) := by decide +kernel
theorem dX10_finds_27 : decode cX10_finds 27 = .ok (.istore 4, 2) := by decide +kernel
theorem dX10_finds_29 : decode cX10_finds 29 = .ok (.aload_n 0, 1) := by decide +kernel
theorem dX10_finds_30 : decode cX10_finds 30 = .ok (.getfield 65, 3) := by decide +kernel
theorem dX10_finds_33 : decode cX10_finds 33 = .ok (.iconst 0, 1) := by decide +kernel
theorem dX10_finds_34 : decode cX10_finds 34 = .ok (.aload_n 0, 1) := by decide +kernel
theorem dX10_finds_35 : decode cX10_finds 35 = .ok (.getfield 13, 3) := by decide +kernel
theorem dX10_finds_38 : decode cX10_finds 38 = .ok (.sipush 1864, 3) := by decide +kernel
theorem dX10_finds_41 : decode cX10_finds 41 = .ok (.iload_n 1, 1) := by decide +kernel
theorem dX10_finds_42 : decode cX10_finds 42 = .ok (.iadd, 1) := by decide +kernel
theorem dX10_finds_43 : decode cX10_finds 43 = .ok (.iaload, 1) := by decide +kernel
theorem dX10_finds_44 : decode cX10_finds 44 = .ok (.iastore, 1) := by decide +kernel
theorem dX10_finds_45 : decode cX10_finds 45 = .ok (.aload_n 0, 1) := by decide +kernel
theorem dX10_finds_46 : decode cX10_finds 46 = .ok (.getfield 71, 3) := by decide +kernel
theorem dX10_finds_49 : decode cX10_finds 49 = .ok (.iconst 0, 1) := by decide +kernel
theorem dX10_finds_50 : decode cX10_finds 50 = .ok (.iconst (-1), 1) := by decide +kernel
theorem dX10_finds_51 : decode cX10_finds 51 = .ok (.iastore, 1) := by decide +kernel
theorem dX10_finds_52 : decode cX10_finds 52 = .ok (.aload_n 0, 1) := by decide +kernel
theorem dX10_finds_53 : decode cX10_finds 53 = .ok (.getfield 74, 3) := by decide +kernel
theorem dX10_finds_56 : decode cX10_finds 56 = .ok (.aload_n 0, 1) := by decide +kernel
theorem dX10_finds_57 : decode cX10_finds 57 = .ok (.getfield 65, 3) := by decide +kernel
theorem dX10_finds_60 : decode cX10_finds 60 = .ok (.iconst 0, 1) := by decide +kernel
theorem dX10_finds_61 : decode cX10_finds 61 = .ok (.iaload, 1) := by decide +kernel
theorem dX10_finds_62 : decode cX10_finds 62 = .ok (.iconst 1, 1) := by decide +kernel
theorem dX10_finds_63 : decode cX10_finds 63 = .ok (.bastore, 1) := by decide +kernel
theorem dX10_finds_64 : decode cX10_finds 64 = .ok (.iload_n 3, 1) := by decide +kernel
theorem dX10_finds_65 : decode cX10_finds 65 = .ok (.iload 4, 2) := by decide +kernel
theorem dX10_finds_67 : decode cX10_finds 67 = .ok (.if_icmp .ge 156, 3) := by decide +kernel
theorem dX10_finds_70 : decode cX10_finds 70 = .ok (.aload_n 0, 1) := by decide +kernel
theorem dX10_finds_71 : decode cX10_finds 71 = .ok (.getfield 65, 3) := by decide +kernel
theorem dX10_finds_74 : decode cX10_finds 74 = .ok (.iload_n 3, 1) := by decide +kernel
theorem dX10_finds_75 : decode cX10_finds 75 = .ok (.iaload, 1) := by decide +kernel
theorem dX10_finds_76 : decode cX10_finds 76 = .ok (.istore 5, 2) := by decide +kernel
theorem dX10_finds_78 : decode cX10_finds 78 = .ok (.iconst 0, 1) := by decide +kernel
theorem dX10_finds_79 : decode cX10_finds 79 = .ok (.istore 6, 2) := by decide +kernel
theorem dX10_finds_81 : decode cX10_finds 81 = .ok (.iload 6, 2) := by decide +kernel
theorem dX10_finds_83 : decode cX10_finds 83 = .ok (.aload_n 0, 1) := by decide +kernel
theorem dX10_finds_84 : decode cX10_finds 84 = .ok (.getfield 13, 3) := by decide +kernel
theorem dX10_finds_87 : decode cX10_finds 87 = .ok (.iconst 0, 1) := by decide +kernel
theorem dX10_finds_88 : decode cX10_finds 88 = .ok (.iaload, 1) := by decide +kernel
theorem dX10_finds_89 : decode cX10_finds 89 = .ok (.if_icmp .ge 128, 3) := by decide +kernel
theorem dX10_finds_92 : decode cX10_finds 92 = .ok (.iload 6, 2) := by decide +kernel
theorem dX10_finds_94 : decode cX10_finds 94 = .ok (.iload_n 1, 1) := by decide +kernel
theorem dX10_finds_95 : decode cX10_finds 95 = .ok (.if_icmp .eq 116, 3) := by decide +kernel
theorem dX10_finds_98 : decode cX10_finds 98 = .ok (.iload 5, 2) := by decide +kernel
theorem dX10_finds_100 : decode cX10_finds 100 = .ok (.iload 6, 2) := by decide +kernel
theorem dX10_finds_102 : decode cX10_finds 102 = .ok (.invokestatic 294, 3) := by decide +kernel
theorem dX10_finds_105 : decode cX10_finds 105 = .ok (.ifCond .ne 106, 3) := by decide +kernel
theorem dX10_finds_108 : decode cX10_finds 108 = .ok (.aload_n 0, 1) := by decide +kernel
theorem dX10_finds_109 : decode cX10_finds 109 = .ok (.iload 6, 2) := by decide +kernel
theorem dX10_finds_111 : decode cX10_finds 111 = .ok (.aload_n 0, 1) := by decide +kernel
theorem dX10_finds_112 : decode cX10_finds 112 = .ok (.invokevirtual 291, 3) := by decide +kernel
theorem dX10_finds_115 : decode cX10_finds 115 = .ok (.invokevirtual 301, 3) := by decide +kernel
theorem dX10_finds_118 : decode cX10_finds 118 = .ok (.ifCond .eq 93, 3) := by decide +kernel
theorem dX10_finds_121 : decode cX10_finds 121 = .ok (.aload_n 0, 1) := by decide +kernel
theorem dX10_finds_122 : decode cX10_finds 122 = .ok (.iload 5, 2) := by decide +kernel
theorem dX10_finds_124 : decode cX10_finds 124 = .ok (.iload 6, 2) := by decide +kernel
theorem dX10_finds_126 : decode cX10_finds 126 = .ok (.invokevirtual 310, 3) := by decide +kernel
theorem dX10_finds_129 : decode cX10_finds 129 = .ok (.ifCond .eq 82, 3) := by decide +kernel
theorem dX10_finds_132 : decode cX10_finds 132 = .ok (.aload_n 0, 1) := by decide +kernel
theorem dX10_finds_133 : decode cX10_finds 133 = .ok (.getfield 74, 3) := by decide +kernel
theorem dX10_finds_136 : decode cX10_finds 136 = .ok (.iload 5, 2) := by decide +kernel
theorem dX10_finds_138 : decode cX10_finds 138 = .ok (.iconst 1, 1) := by decide +kernel
theorem dX10_finds_139 : decode cX10_finds 139 = .ok (.iload 6, 2) := by decide +kernel
theorem dX10_finds_141 : decode cX10_finds 141 = .ok (.ishl, 1) := by decide +kernel
theorem dX10_finds_142 : decode cX10_finds 142 = .ok (.ior, 1) := by decide +kernel
theorem dX10_finds_143 : decode cX10_finds 143 = .ok (.baload, 1) := by decide +kernel
theorem dX10_finds_144 : decode cX10_finds 144 = .ok (.ifCond .eq 6, 3) := by decide +kernel
theorem dX10_finds_147 : decode cX10_finds 147 = .ok (.goto 64, 3) := by decide +kernel
theorem dX10_finds_150 : decode cX10_finds 150 = .ok (.aload_n 0, 1) := by decide +kernel
theorem dX10_finds_151 : decode cX10_finds 151 = .ok (.getfield 74, 3) := by decide +kernel
theorem dX10_finds_154 : decode cX10_finds 154 = .ok (.iload 5, 2) := by decide +kernel
theorem dX10_finds_156 : decode cX10_finds 156 = .ok (.iconst 1, 1) := by decide +kernel
theorem dX10_finds_157 : decode cX10_finds 157 = .ok (.iload 6, 2) := by decide +kernel
theorem dX10_finds_159 : decode cX10_finds 159 = .ok (.ishl, 1) := by decide +kernel
theorem dX10_finds_160 : decode cX10_finds 160 = .ok (.ior, 1) := by decide +kernel
theorem dX10_finds_161 : decode cX10_finds 161 = .ok (.iconst 1, 1) := by decide +kernel
theorem dX10_finds_162 : decode cX10_finds 162 = .ok (.bastore, 1) := by decide +kernel
theorem dX10_finds_163 : decode cX10_finds 163 = .ok (.aload_n 0, 1) := by decide +kernel
theorem dX10_finds_164 : decode cX10_finds 164 = .ok (.getfield 65, 3) := by decide +kernel
theorem dX10_finds_167 : decode cX10_finds 167 = .ok (.iload 4, 2) := by decide +kernel
theorem dX10_finds_169 : decode cX10_finds 169 = .ok (.iload 5, 2) := by decide +kernel
theorem dX10_finds_171 : decode cX10_finds 171 = .ok (.iconst 1, 1) := by decide +kernel
theorem dX10_finds_172 : decode cX10_finds 172 = .ok (.iload 6, 2) := by decide +kernel
theorem dX10_finds_174 : decode cX10_finds 174 = .ok (.ishl, 1) := by decide +kernel
theorem dX10_finds_175 : decode cX10_finds 175 = .ok (.ior, 1) := by decide +kernel
theorem dX10_finds_176 : decode cX10_finds 176 = .ok (.iastore, 1) := by decide +kernel
theorem dX10_finds_177 : decode cX10_finds 177 = .ok (.aload_n 0, 1) := by decide +kernel
theorem dX10_finds_178 : decode cX10_finds 178 = .ok (.getfield 71, 3) := by decide +kernel
theorem dX10_finds_181 : decode cX10_finds 181 = .ok (.iload 4, 2) := by decide +kernel
theorem dX10_finds_183 : decode cX10_finds 183 = .ok (.iload_n 3, 1) := by decide +kernel
theorem dX10_finds_184 : decode cX10_finds 184 = .ok (.iastore, 1) := by decide +kernel
theorem dX10_finds_185 : decode cX10_finds 185 = .ok (.aload_n 0, 1) := by decide +kernel
theorem dX10_finds_186 : decode cX10_finds 186 = .ok (.getfield 68, 3) := by decide +kernel
theorem dX10_finds_189 : decode cX10_finds 189 = .ok (.iload 4, 2) := by decide +kernel
theorem dX10_finds_191 : decode cX10_finds 191 = .ok (.iload 6, 2) := by decide +kernel
theorem dX10_finds_193 : decode cX10_finds 193 = .ok (.iastore, 1) := by decide +kernel
theorem dX10_finds_194 : decode cX10_finds 194 = .ok (.iload 6, 2) := by decide +kernel
theorem dX10_finds_196 : decode cX10_finds 196 = .ok (.iload_n 2, 1) := by decide +kernel
theorem dX10_finds_197 : decode cX10_finds 197 = .ok (.if_icmp .ne 11, 3) := by decide +kernel
theorem dX10_finds_200 : decode cX10_finds 200 = .ok (.aload_n 0, 1) := by decide +kernel
theorem dX10_finds_201 : decode cX10_finds 201 = .ok (.iload 4, 2) := by decide +kernel
theorem dX10_finds_203 : decode cX10_finds 203 = .ok (.invokevirtual 447, 3) := by decide +kernel
theorem dX10_finds_206 : decode cX10_finds 206 = .ok (.iconst 1, 1) := by decide +kernel
theorem dX10_finds_207 : decode cX10_finds 207 = .ok (.ireturn, 1) := by decide +kernel
theorem dX10_finds_208 : decode cX10_finds 208 = .ok (.iinc 4 1, 3) := by decide +kernel
theorem dX10_finds_211 : decode cX10_finds 211 = .ok (.iinc 6 1, 3) := by decide +kernel
theorem dX10_finds_214 : decode cX10_finds 214 = .ok (.goto (-133), 3) := by decide +kernel
theorem dX10_finds_217 : decode cX10_finds 217 = .ok (.iinc 3 1, 3) := by decide +kernel
theorem dX10_finds_220 : decode cX10_finds 220 = .ok (.goto (-156), 3) := by decide +kernel
theorem dX10_finds_223 : decode cX10_finds 223 = .ok (.iconst 0, 1) := by decide +kernel
theorem dX10_finds_224 : decode cX10_finds 224 = .ok (.ireturn, 1) := by decide +kernel
theorem dX10_walks_0 : decode cX10_walks 0 = .ok (.aload_n 0, 1) := by decide +kernel
theorem dX10_walks_1 : decode cX10_walks 1 = .ok (.iconst 0, 1) := by decide +kernel
theorem dX10_walks_2 : decode cX10_walks 2 = .ok (.putfield 450, 3) := by decide +kernel
theorem dX10_walks_5 : decode cX10_walks 5 = .ok (.iload_n 1, 1) := by decide +kernel
theorem dX10_walks_6 : decode cX10_walks 6 = .ok (.istore_n 2, 1) := by decide +kernel
theorem dX10_walks_7 : decode cX10_walks 7 = .ok (.aload_n 0, 1) := by decide +kernel
theorem dX10_walks_8 : decode cX10_walks 8 = .ok (.getfield 71, 3) := by decide +kernel
theorem dX10_walks_11 : decode cX10_walks 11 = .ok (.iload_n 2, 1) := by decide +kernel
theorem dX10_walks_12 : decode cX10_walks 12 = .ok (.iaload, 1) := by decide +kernel
theorem dX10_walks_13 : decode cX10_walks 13 = .ok (.iconst (-1), 1) := by decide +kernel
theorem dX10_walks_14 : decode cX10_walks 14 = .ok (.if_icmp .eq 23, 3) := by decide +kernel
theorem dX10_walks_17 : decode cX10_walks 17 = .ok (.aload_n 0, 1) := by decide +kernel
theorem dX10_walks_18 : decode cX10_walks 18 = .ok (.dup, 1) := by decide +kernel
theorem dX10_walks_19 : decode cX10_walks 19 = .ok (.getfield 450, 3) := by decide +kernel
theorem dX10_walks_22 : decode cX10_walks 22 = .ok (.iconst 1, 1) := by decide +kernel
theorem dX10_walks_23 : decode cX10_walks 23 = .ok (.iadd, 1) := by decide +kernel
theorem dX10_walks_24 : decode cX10_walks 24 = .ok (.putfield 450, 3) := by decide +kernel
theorem dX10_walks_27 : decode cX10_walks 27 = .ok (.aload_n 0, 1) := by decide +kernel
theorem dX10_walks_28 : decode cX10_walks 28 = .ok (.getfield 71, 3) := by decide +kernel
theorem dX10_walks_31 : decode cX10_walks 31 = .ok (.iload_n 2, 1) := by decide +kernel
theorem dX10_walks_32 : decode cX10_walks 32 = .ok (.iaload, 1) := by decide +kernel
theorem dX10_walks_33 : decode cX10_walks 33 = .ok (.istore_n 2, 1) := by decide +kernel
theorem dX10_walks_34 : decode cX10_walks 34 = .ok (.goto (-27), 3) := by decide +kernel
theorem dX10_walks_37 : decode cX10_walks 37 = .ok (.aload_n 0, 1) := by decide +kernel
theorem dX10_walks_38 : decode cX10_walks 38 = .ok (.getfield 450, 3) := by decide +kernel
theorem dX10_walks_41 : decode cX10_walks 41 = .ok (.istore_n 2, 1) := by decide +kernel
theorem dX10_walks_42 : decode cX10_walks 42 = .ok (.iload_n 1, 1) := by decide +kernel
theorem dX10_walks_43 : decode cX10_walks 43 = .ok (.istore_n 3, 1) := by decide +kernel
theorem dX10_walks_44 : decode cX10_walks 44 = .ok (.aload_n 0, 1) := by decide +kernel
theorem dX10_walks_45 : decode cX10_walks 45 = .ok (.getfield 71, 3) := by decide +kernel
theorem dX10_walks_48 : decode cX10_walks 48 = .ok (.iload_n 3, 1) := by decide +kernel
theorem dX10_walks_49 : decode cX10_walks 49 = .ok (.iaload, 1) := by decide +kernel
theorem dX10_walks_50 : decode cX10_walks 50 = .ok (.iconst (-1), 1) := by decide +kernel
theorem dX10_walks_51 : decode cX10_walks 51 = .ok (.if_icmp .eq 28, 3) := by decide +kernel
theorem dX10_walks_54 : decode cX10_walks 54 = .ok (.iinc 2 (-1), 3) := by decide +kernel
theorem dX10_walks_57 : decode cX10_walks 57 = .ok (.aload_n 0, 1) := by decide +kernel
theorem dX10_walks_58 : decode cX10_walks 58 = .ok (.getfield 77, 3) := by decide +kernel
theorem dX10_walks_61 : decode cX10_walks 61 = .ok (.iload_n 2, 1) := by decide +kernel
theorem dX10_walks_62 : decode cX10_walks 62 = .ok (.aload_n 0, 1) := by decide +kernel
theorem dX10_walks_63 : decode cX10_walks 63 = .ok (.getfield 68, 3) := by decide +kernel
theorem dX10_walks_66 : decode cX10_walks 66 = .ok (.iload_n 3, 1) := by decide +kernel
theorem dX10_walks_67 : decode cX10_walks 67 = .ok (.iaload, 1) := by decide +kernel
theorem dX10_walks_68 : decode cX10_walks 68 = .ok (.iastore, 1) := by decide +kernel
theorem dX10_walks_69 : decode cX10_walks 69 = .ok (.aload_n 0, 1) := by decide +kernel
theorem dX10_walks_70 : decode cX10_walks 70 = .ok (.getfield 71, 3) := by decide +kernel
theorem dX10_walks_73 : decode cX10_walks 73 = .ok (.iload_n 3, 1) := by decide +kernel
theorem dX10_walks_74 : decode cX10_walks 74 = .ok (.iaload, 1) := by decide +kernel
theorem dX10_walks_75 : decode cX10_walks 75 = .ok (.istore_n 3, 1) := by decide +kernel
theorem dX10_walks_76 : decode cX10_walks 76 = .ok (.goto (-32), 3) := by decide +kernel
theorem dX10_walks_79 : decode cX10_walks 79 = .ok (.return_, 1) := by decide +kernel
theorem dX10_soon_0 : decode cX10_soon 0 = .ok (.aload_n 0, 1) := by decide +kernel
theorem dX10_soon_1 : decode cX10_soon 1 = .ok (.iload_n 1, 1) := by decide +kernel
theorem dX10_soon_2 : decode cX10_soon 2 = .ok (.iload_n 2, 1) := by decide +kernel
theorem dX10_soon_3 : decode cX10_soon 3 = .ok (.invokevirtual 315, 3) := by decide +kernel
theorem dX10_soon_6 : decode cX10_soon 6 = .ok (.ifCond .ne 6, 3) := by decide +kernel
theorem dX10_soon_9 : decode cX10_soon 9 = .ok (.bipush (-2), 2) := by decide +kernel
theorem dX10_soon_11 : decode cX10_soon 11 = .ok (.ireturn, 1) := by decide +kernel
theorem dX10_soon_12 : decode cX10_soon 12 = .ok (.aload_n 0, 1) := by decide +kernel
theorem dX10_soon_13 : decode cX10_soon 13 = .ok (.iload_n 1, 1) := by decide +kernel
theorem dX10_soon_14 : decode cX10_soon 14 = .ok (.iload_n 2, 1) := by decide +kernel
theorem dX10_soon_15 : decode cX10_soon 15 = .ok (.invokevirtual 304, 3) := by decide +kernel
theorem dX10_soon_18 : decode cX10_soon 18 = .ok (.ifCond .eq 5, 3) := by decide +kernel
theorem dX10_soon_21 : decode cX10_soon 21 = .ok (.iconst 0, 1) := by decide +kernel
theorem dX10_soon_22 : decode cX10_soon 22 = .ok (.ireturn, 1) := by decide +kernel
theorem dX10_soon_23 : decode cX10_soon 23 = .ok (.aload_n 0, 1) := by decide +kernel
theorem dX10_soon_24 : decode cX10_soon 24 = .ok (.iload_n 1, 1) := by decide +kernel
theorem dX10_soon_25 : decode cX10_soon 25 = .ok (.iload_n 2, 1) := by decide +kernel
theorem dX10_soon_26 : decode cX10_soon 26 = .ok (.invokevirtual 453, 3) := by decide +kernel
theorem dX10_soon_29 : decode cX10_soon 29 = .ok (.ifCond .eq 10, 3) := by decide +kernel
theorem dX10_soon_32 : decode cX10_soon 32 = .ok (.aload_n 0, 1) := by decide +kernel
theorem dX10_soon_33 : decode cX10_soon 33 = .ok (.getfield 450, 3) := by decide +kernel
theorem dX10_soon_36 : decode cX10_soon 36 = .ok (.goto 4, 3) := by decide +kernel
theorem dX10_soon_39 : decode cX10_soon 39 = .ok (.iconst (-1), 1) := by decide +kernel
theorem dX10_soon_40 : decode cX10_soon 40 = .ok (.ireturn, 1) := by decide +kernel
theorem dX10_path_0 : decode cX10_path 0 = .ok (.aload_n 0, 1) := by decide +kernel
theorem dX10_path_1 : decode cX10_path 1 = .ok (.iload_n 1, 1) := by decide +kernel
theorem dX10_path_2 : decode cX10_path 2 = .ok (.iload_n 2, 1) := by decide +kernel
theorem dX10_path_3 : decode cX10_path 3 = .ok (.invokevirtual 315, 3) := by decide +kernel
theorem dX10_path_6 : decode cX10_path 6 = .ok (.ifCond .ne 6, 3) := by decide +kernel
theorem dX10_path_9 : decode cX10_path 9 = .ok (.bipush (-2), 2) := by decide +kernel
theorem dX10_path_11 : decode cX10_path 11 = .ok (.ireturn, 1) := by decide +kernel
theorem dX10_path_12 : decode cX10_path 12 = .ok (.aload_n 0, 1) := by decide +kernel
theorem dX10_path_13 : decode cX10_path 13 = .ok (.iload_n 1, 1) := by decide +kernel
theorem dX10_path_14 : decode cX10_path 14 = .ok (.iload_n 2, 1) := by decide +kernel
theorem dX10_path_15 : decode cX10_path 15 = .ok (.invokevirtual 304, 3) := by decide +kernel
theorem dX10_path_18 : decode cX10_path 18 = .ok (.ifCond .ne 37, 3) := by decide +kernel
theorem dX10_path_21 : decode cX10_path 21 = .ok (.aload_n 0, 1) := by decide +kernel
theorem dX10_path_22 : decode cX10_path 22 = .ok (.iload_n 1, 1) := by decide +kernel
theorem dX10_path_23 : decode cX10_path 23 = .ok (.iload_n 2, 1) := by decide +kernel
theorem dX10_path_24 : decode cX10_path 24 = .ok (.invokevirtual 453, 3) := by decide +kernel
theorem dX10_path_27 : decode cX10_path 27 = .ok (.ifCond .eq 28, 3) := by decide +kernel
theorem dX10_path_30 : decode cX10_path 30 = .ok (.iload_n 3, 1) := by decide +kernel
theorem dX10_path_31 : decode cX10_path 31 = .ok (.i2l, 1) := by decide +kernel
theorem dX10_path_32 : decode cX10_path 32 = .ok (.lconst 0, 1) := by decide +kernel
theorem dX10_path_33 : decode cX10_path 33 = .ok (.aload_n 0, 1) := by decide +kernel
theorem dX10_path_34 : decode cX10_path 34 = .ok (.getfield 450, 3) := by decide +kernel
theorem dX10_path_37 : decode cX10_path 37 = .ok (.iconst 1, 1) := by decide +kernel
theorem dX10_path_38 : decode cX10_path 38 = .ok (.isub, 1) := by decide +kernel
theorem dX10_path_39 : decode cX10_path 39 = .ok (.i2l, 1) := by decide +kernel
theorem dX10_path_40 : decode cX10_path 40 = .ok (.invokestatic 101, 3) := by decide +kernel
theorem dX10_path_43 : decode cX10_path 43 = .ok (.ifCond .eq 12, 3) := by decide +kernel
theorem dX10_path_46 : decode cX10_path 46 = .ok (.aload_n 0, 1) := by decide +kernel
theorem dX10_path_47 : decode cX10_path 47 = .ok (.getfield 77, 3) := by decide +kernel
theorem dX10_path_50 : decode cX10_path 50 = .ok (.iload_n 3, 1) := by decide +kernel
theorem dX10_path_51 : decode cX10_path 51 = .ok (.iaload, 1) := by decide +kernel
theorem dX10_path_52 : decode cX10_path 52 = .ok (.goto 4, 3) := by decide +kernel
theorem dX10_path_55 : decode cX10_path 55 = .ok (.iconst (-1), 1) := by decide +kernel
theorem dX10_path_56 : decode cX10_path 56 = .ok (.ireturn, 1) := by decide +kernel
theorem dX10_hangs_0 : decode cX10_hangs 0 = .ok (.iconst 1, 1) := by decide +kernel
theorem dX10_hangs_1 : decode cX10_hangs 1 = .ok (.iload_n 1, 1) := by decide +kernel
theorem dX10_hangs_2 : decode cX10_hangs 2 = .ok (.ishl, 1) := by decide +kernel
theorem dX10_hangs_3 : decode cX10_hangs 3 = .ok (.istore 4, 2) := by decide +kernel
theorem dX10_hangs_5 : decode cX10_hangs 5 = .ok (.iconst 0, 1) := by decide +kernel
theorem dX10_hangs_6 : decode cX10_hangs 6 = .ok (.istore 5, 2) := by decide +kernel
theorem dX10_hangs_8 : decode cX10_hangs 8 = .ok (.iload 5, 2) := by decide +kernel
theorem dX10_hangs_10 : decode cX10_hangs 10 = .ok (.iload 4, 2) := by decide +kernel
theorem dX10_hangs_12 : decode cX10_hangs 12 = .ok (.if_icmp .eq 95, 3) := by decide +kernel
theorem dX10_hangs_15 : decode cX10_hangs 15 = .ok (.iload 4, 2) := by decide +kernel
theorem dX10_hangs_17 : decode cX10_hangs 17 = .ok (.istore 5, 2) := by decide +kernel
theorem dX10_hangs_19 : decode cX10_hangs 19 = .ok (.iconst 0, 1) := by decide +kernel
theorem dX10_hangs_20 : decode cX10_hangs 20 = .ok (.istore 6, 2) := by decide +kernel
theorem dX10_hangs_22 : decode cX10_hangs 22 = .ok (.iload 6, 2) := by decide +kernel
theorem dX10_hangs_24 : decode cX10_hangs 24 = .ok (.aload_n 0, 1) := by decide +kernel
theorem dX10_hangs_25 : decode cX10_hangs 25 = .ok (.getfield 13, 3) := by decide +kernel
theorem dX10_hangs_28 : decode cX10_hangs 28 = .ok (.iconst 0, 1) := by decide +kernel
theorem dX10_hangs_29 : decode cX10_hangs 29 = .ok (.iaload, 1) := by decide +kernel
theorem dX10_hangs_30 : decode cX10_hangs 30 = .ok (.if_icmp .ge 74, 3) := by decide +kernel
theorem dX10_hangs_33 : decode cX10_hangs 33 = .ok (.iload 5, 2) := by decide +kernel
theorem dX10_hangs_35 : decode cX10_hangs 35 = .ok (.iload 6, 2) := by decide +kernel
theorem dX10_hangs_37 : decode cX10_hangs 37 = .ok (.invokestatic 294, 3) := by decide +kernel
theorem dX10_hangs_40 : decode cX10_hangs 40 = .ok (.ifCond .ne 6, 3) := by decide +kernel
theorem dX10_hangs_43 : decode cX10_hangs 43 = .ok (.goto 55, 3) := by decide +kernel
theorem dX10_hangs_46 : decode cX10_hangs 46 = .ok (.aload_n 0, 1) := by decide +kernel
theorem dX10_hangs_47 : decode cX10_hangs 47 = .ok (.getfield 13, 3) := by decide +kernel
theorem dX10_hangs_50 : decode cX10_hangs 50 = .ok (.sipush 1864, 3) := by decide +kernel
theorem dX10_hangs_53 : decode cX10_hangs 53 = .ok (.iload 6, 2) := by decide +kernel
theorem dX10_hangs_55 : decode cX10_hangs 55 = .ok (.iadd, 1) := by decide +kernel
theorem dX10_hangs_56 : decode cX10_hangs 56 = .ok (.iaload, 1) := by decide +kernel
theorem dX10_hangs_57 : decode cX10_hangs 57 = .ok (.istore 7, 2) := by decide +kernel
theorem dX10_hangs_59 : decode cX10_hangs 59 = .ok (.iload 6, 2) := by decide +kernel
theorem dX10_hangs_61 : decode cX10_hangs 61 = .ok (.iload_n 2, 1) := by decide +kernel
theorem dX10_hangs_62 : decode cX10_hangs 62 = .ok (.if_icmp .ne 13, 3) := by decide +kernel
theorem dX10_hangs_65 : decode cX10_hangs 65 = .ok (.iload 7, 2) := by decide +kernel
theorem dX10_hangs_67 : decode cX10_hangs 67 = .ok (.iconst 1, 1) := by decide +kernel
theorem dX10_hangs_68 : decode cX10_hangs 68 = .ok (.iload_n 3, 1) := by decide +kernel
theorem dX10_hangs_69 : decode cX10_hangs 69 = .ok (.ishl, 1) := by decide +kernel
theorem dX10_hangs_70 : decode cX10_hangs 70 = .ok (.iconst (-1), 1) := by decide +kernel
theorem dX10_hangs_71 : decode cX10_hangs 71 = .ok (.ixor, 1) := by decide +kernel
theorem dX10_hangs_72 : decode cX10_hangs 72 = .ok (.iand, 1) := by decide +kernel
theorem dX10_hangs_73 : decode cX10_hangs 73 = .ok (.istore 7, 2) := by decide +kernel
theorem dX10_hangs_75 : decode cX10_hangs 75 = .ok (.iload 6, 2) := by decide +kernel
theorem dX10_hangs_77 : decode cX10_hangs 77 = .ok (.iload_n 3, 1) := by decide +kernel
theorem dX10_hangs_78 : decode cX10_hangs 78 = .ok (.if_icmp .ne 13, 3) := by decide +kernel
theorem dX10_hangs_81 : decode cX10_hangs 81 = .ok (.iload 7, 2) := by decide +kernel
theorem dX10_hangs_83 : decode cX10_hangs 83 = .ok (.iconst 1, 1) := by decide +kernel
theorem dX10_hangs_84 : decode cX10_hangs 84 = .ok (.iload_n 2, 1) := by decide +kernel
theorem dX10_hangs_85 : decode cX10_hangs 85 = .ok (.ishl, 1) := by decide +kernel
theorem dX10_hangs_86 : decode cX10_hangs 86 = .ok (.iconst (-1), 1) := by decide +kernel
theorem dX10_hangs_87 : decode cX10_hangs 87 = .ok (.ixor, 1) := by decide +kernel
theorem dX10_hangs_88 : decode cX10_hangs 88 = .ok (.iand, 1) := by decide +kernel
theorem dX10_hangs_89 : decode cX10_hangs 89 = .ok (.istore 7, 2) := by decide +kernel
theorem dX10_hangs_91 : decode cX10_hangs 91 = .ok (.iload 4, 2) := by decide +kernel
theorem dX10_hangs_93 : decode cX10_hangs 93 = .ok (.iload 7, 2) := by decide +kernel
theorem dX10_hangs_95 : decode cX10_hangs 95 = .ok (.ior, 1) := by decide +kernel
theorem dX10_hangs_96 : decode cX10_hangs 96 = .ok (.istore 4, 2) := by decide +kernel
theorem dX10_hangs_98 : decode cX10_hangs 98 = .ok (.iinc 6 1, 3) := by decide +kernel
theorem dX10_hangs_101 : decode cX10_hangs 101 = .ok (.goto (-79), 3) := by decide +kernel
theorem dX10_hangs_104 : decode cX10_hangs 104 = .ok (.goto (-96), 3) := by decide +kernel
theorem dX10_hangs_107 : decode cX10_hangs 107 = .ok (.iload 4, 2) := by decide +kernel
theorem dX10_hangs_109 : decode cX10_hangs 109 = .ok (.ireturn, 1) := by decide +kernel
theorem dX10_reach_0 : decode cX10_reach 0 = .ok (.aload_n 0, 1) := by decide +kernel
theorem dX10_reach_1 : decode cX10_reach 1 = .ok (.iload_n 1, 1) := by decide +kernel
theorem dX10_reach_2 : decode cX10_reach 2 = .ok (.invokevirtual 105, 3) := by decide +kernel
theorem dX10_reach_5 : decode cX10_reach 5 = .ok (.ifCond .eq 13, 3) := by decide +kernel
theorem dX10_reach_8 : decode cX10_reach 8 = .ok (.aload_n 0, 1) := by decide +kernel
theorem dX10_reach_9 : decode cX10_reach 9 = .ok (.iload_n 1, 1) := by decide +kernel
theorem dX10_reach_10 : decode cX10_reach 10 = .ok (.iconst (-1), 1) := by decide +kernel
theorem dX10_reach_11 : decode cX10_reach 11 = .ok (.iconst (-1), 1) := by decide +kernel
theorem dX10_reach_12 : decode cX10_reach 12 = .ok (.invokevirtual 456, 3) := by decide +kernel
theorem dX10_reach_15 : decode cX10_reach 15 = .ok (.goto 5, 3) := by decide +kernel
theorem dX10_reach_18 : decode cX10_reach 18 = .ok (.bipush (-2), 2) := by decide +kernel
theorem dX10_reach_20 : decode cX10_reach 20 = .ok (.ireturn, 1) := by decide +kernel
theorem dX10_drop_0 : decode cX10_drop 0 = .ok (.aload_n 0, 1) := by decide +kernel
theorem dX10_drop_1 : decode cX10_drop 1 = .ok (.iload_n 1, 1) := by decide +kernel
theorem dX10_drop_2 : decode cX10_drop 2 = .ok (.invokevirtual 105, 3) := by decide +kernel
theorem dX10_drop_5 : decode cX10_drop 5 = .ok (.ifCond .ne 6, 3) := by decide +kernel
theorem dX10_drop_8 : decode cX10_drop 8 = .ok (.bipush (-2), 2) := by decide +kernel
theorem dX10_drop_10 : decode cX10_drop 10 = .ok (.ireturn, 1) := by decide +kernel
theorem dX10_drop_11 : decode cX10_drop 11 = .ok (.aload_n 0, 1) := by decide +kernel
theorem dX10_drop_12 : decode cX10_drop 12 = .ok (.iload_n 1, 1) := by decide +kernel
theorem dX10_drop_13 : decode cX10_drop 13 = .ok (.invokevirtual 390, 3) := by decide +kernel
theorem dX10_drop_16 : decode cX10_drop 16 = .ok (.iconst (-1), 1) := by decide +kernel
theorem dX10_drop_17 : decode cX10_drop 17 = .ok (.istore_n 2, 1) := by decide +kernel
theorem dX10_drop_18 : decode cX10_drop 18 = .ok (.aload_n 0, 1) := by decide +kernel
theorem dX10_drop_19 : decode cX10_drop 19 = .ok (.iload_n 1, 1) := by decide +kernel
theorem dX10_drop_20 : decode cX10_drop 20 = .ok (.iconst (-1), 1) := by decide +kernel
theorem dX10_drop_21 : decode cX10_drop 21 = .ok (.iconst (-1), 1) := by decide +kernel
theorem dX10_drop_22 : decode cX10_drop 22 = .ok (.invokevirtual 456, 3) := by decide +kernel
theorem dX10_drop_25 : decode cX10_drop 25 = .ok (.invokestatic 298, 3) := by decide +kernel
theorem dX10_drop_28 : decode cX10_drop 28 = .ok (.istore_n 3, 1) := by decide +kernel
theorem dX10_drop_29 : decode cX10_drop 29 = .ok (.iconst 0, 1) := by decide +kernel
theorem dX10_drop_30 : decode cX10_drop 30 = .ok (.istore 4, 2) := by decide +kernel
theorem dX10_drop_32 : decode cX10_drop 32 = .ok (.iload 4, 2) := by decide +kernel
theorem dX10_drop_34 : decode cX10_drop 34 = .ok (.aload_n 0, 1) := by decide +kernel
theorem dX10_drop_35 : decode cX10_drop 35 = .ok (.getfield 13, 3) := by decide +kernel
theorem dX10_drop_38 : decode cX10_drop 38 = .ok (.iconst 0, 1) := by decide +kernel
theorem dX10_drop_39 : decode cX10_drop 39 = .ok (.iaload, 1) := by decide +kernel
theorem dX10_drop_40 : decode cX10_drop 40 = .ok (.if_icmp .ge 71, 3) := by decide +kernel
theorem dX10_drop_43 : decode cX10_drop 43 = .ok (.aload_n 0, 1) := by decide +kernel
theorem dX10_drop_44 : decode cX10_drop 44 = .ok (.iload_n 1, 1) := by decide +kernel
theorem dX10_drop_45 : decode cX10_drop 45 = .ok (.iload 4, 2) := by decide +kernel
theorem dX10_drop_47 : decode cX10_drop 47 = .ok (.invokevirtual 304, 3) := by decide +kernel
theorem dX10_drop_50 : decode cX10_drop 50 = .ok (.ifCond .eq 55, 3) := by decide +kernel
theorem dX10_drop_53 : decode cX10_drop 53 = .ok (.aload_n 0, 1) := by decide +kernel
theorem dX10_drop_54 : decode cX10_drop 54 = .ok (.getfield 43, 3) := by decide +kernel
theorem dX10_drop_57 : decode cX10_drop 57 = .ok (.iload 4, 2) := by decide +kernel
theorem dX10_drop_59 : decode cX10_drop 59 = .ok (.iaload, 1) := by decide +kernel
theorem dX10_drop_60 : decode cX10_drop 60 = .ok (.ifCond .gt 45, 3) := by decide +kernel
theorem dX10_drop_63 : decode cX10_drop 63 = .ok (.aload_n 0, 1) := by decide +kernel
theorem dX10_drop_64 : decode cX10_drop 64 = .ok (.iload_n 1, 1) := by decide +kernel
theorem dX10_drop_65 : decode cX10_drop 65 = .ok (.iload_n 1, 1) := by decide +kernel
theorem dX10_drop_66 : decode cX10_drop 66 = .ok (.iload 4, 2) := by decide +kernel
theorem dX10_drop_68 : decode cX10_drop 68 = .ok (.invokevirtual 456, 3) := by decide +kernel
theorem dX10_drop_71 : decode cX10_drop 71 = .ok (.invokestatic 298, 3) := by decide +kernel
theorem dX10_drop_74 : decode cX10_drop 74 = .ok (.iload_n 3, 1) := by decide +kernel
theorem dX10_drop_75 : decode cX10_drop 75 = .ok (.if_icmp .eq 6, 3) := by decide +kernel
theorem dX10_drop_78 : decode cX10_drop 78 = .ok (.goto 27, 3) := by decide +kernel
theorem dX10_drop_81 : decode cX10_drop 81 = .ok (.iload_n 2, 1) := by decide +kernel
theorem dX10_drop_82 : decode cX10_drop 82 = .ok (.iconst (-1), 1) := by decide +kernel
theorem dX10_drop_83 : decode cX10_drop 83 = .ok (.if_icmp .eq 19, 3) := by decide +kernel
theorem dX10_drop_86 : decode cX10_drop 86 = .ok (.aload_n 0, 1) := by decide +kernel
theorem dX10_drop_87 : decode cX10_drop 87 = .ok (.iload 4, 2) := by decide +kernel
theorem dX10_drop_89 : decode cX10_drop 89 = .ok (.iconst 2, 1) := by decide +kernel
theorem dX10_drop_90 : decode cX10_drop 90 = .ok (.invokevirtual 286, 3) := by decide +kernel
theorem dX10_drop_93 : decode cX10_drop 93 = .ok (.aload_n 0, 1) := by decide +kernel
theorem dX10_drop_94 : decode cX10_drop 94 = .ok (.iload_n 2, 1) := by decide +kernel
theorem dX10_drop_95 : decode cX10_drop 95 = .ok (.iconst 2, 1) := by decide +kernel
theorem dX10_drop_96 : decode cX10_drop 96 = .ok (.invokevirtual 286, 3) := by decide +kernel
theorem dX10_drop_99 : decode cX10_drop 99 = .ok (.if_icmp .ge 6, 3) := by decide +kernel
theorem dX10_drop_102 : decode cX10_drop 102 = .ok (.iload 4, 2) := by decide +kernel
theorem dX10_drop_104 : decode cX10_drop 104 = .ok (.istore_n 2, 1) := by decide +kernel
theorem dX10_drop_105 : decode cX10_drop 105 = .ok (.iinc 4 1, 3) := by decide +kernel
theorem dX10_drop_108 : decode cX10_drop 108 = .ok (.goto (-76), 3) := by decide +kernel
theorem dX10_drop_111 : decode cX10_drop 111 = .ok (.iload_n 2, 1) := by decide +kernel
theorem dX10_drop_112 : decode cX10_drop 112 = .ok (.ireturn, 1) := by decide +kernel
theorem dX10_tie_0 : decode cX10_tie 0 = .ok (.aload_n 0, 1) := by decide +kernel
theorem dX10_tie_1 : decode cX10_tie 1 = .ok (.iload_n 1, 1) := by decide +kernel
theorem dX10_tie_2 : decode cX10_tie 2 = .ok (.iload_n 2, 1) := by decide +kernel
theorem dX10_tie_3 : decode cX10_tie 3 = .ok (.invokevirtual 315, 3) := by decide +kernel
theorem dX10_tie_6 : decode cX10_tie 6 = .ok (.ifCond .ne 6, 3) := by decide +kernel
theorem dX10_tie_9 : decode cX10_tie 9 = .ok (.bipush (-2), 2) := by decide +kernel
theorem dX10_tie_11 : decode cX10_tie 11 = .ok (.ireturn, 1) := by decide +kernel
