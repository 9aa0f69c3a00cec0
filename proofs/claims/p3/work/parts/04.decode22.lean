theorem dX10_may_41 : decode cX10_may 41 = .ok (.istore 5, 2) := by decide +kernel
theorem dX10_may_43 : decode cX10_may 43 = .ok (.iconst 0, 1) := by decide +kernel
theorem dX10_may_44 : decode cX10_may 44 = .ok (.istore 6, 2) := by decide +kernel
theorem dX10_may_46 : decode cX10_may 46 = .ok (.iconst 0, 1) := by decide +kernel
theorem dX10_may_47 : decode cX10_may 47 = .ok (.istore 7, 2) := by decide +kernel
theorem dX10_may_49 : decode cX10_may 49 = .ok (.iload 7, 2) := by decide +kernel
theorem dX10_may_51 : decode cX10_may 51 = .ok (.aload_n 0, 1) := by decide +kernel
theorem dX10_may_52 : decode cX10_may 52 = .ok (.getfield 86, 3) := by decide +kernel
theorem dX10_may_55 : decode cX10_may 55 = .ok (.iload_n 1, 1) := by decide +kernel
theorem dX10_may_56 : decode cX10_may 56 = .ok (.iaload, 1) := by decide +kernel
theorem dX10_may_57 : decode cX10_may 57 = .ok (.if_icmp .ge 104, 3) := by decide +kernel
theorem dX10_may_60 : decode cX10_may 60 = .ok (.aload_n 0, 1) := by decide +kernel
theorem dX10_may_61 : decode cX10_may 61 = .ok (.getfield 92, 3) := by decide +kernel
theorem dX10_may_64 : decode cX10_may 64 = .ok (.bipush 60, 2) := by decide +kernel
theorem dX10_may_66 : decode cX10_may 66 = .ok (.iload_n 1, 1) := by decide +kernel
theorem dX10_may_67 : decode cX10_may 67 = .ok (.imul, 1) := by decide +kernel
theorem dX10_may_68 : decode cX10_may 68 = .ok (.iload 7, 2) := by decide +kernel
theorem dX10_may_70 : decode cX10_may 70 = .ok (.iadd, 1) := by decide +kernel
theorem dX10_may_71 : decode cX10_may 71 = .ok (.laload, 1) := by decide +kernel
theorem dX10_may_72 : decode cX10_may 72 = .ok (.lstore 8, 2) := by decide +kernel
theorem dX10_may_74 : decode cX10_may 74 = .ok (.lload 8, 2) := by decide +kernel
theorem dX10_may_76 : decode cX10_may 76 = .ok (.lconst 0, 1) := by decide +kernel
theorem dX10_may_77 : decode cX10_may 77 = .ok (.aload_n 0, 1) := by decide +kernel
theorem dX10_may_78 : decode cX10_may 78 = .ok (.getfield 13, 3) := by decide +kernel
theorem dX10_may_81 : decode cX10_may 81 = .ok (.iconst 0, 1) := by decide +kernel
theorem dX10_may_82 : decode cX10_may 82 = .ok (.iaload, 1) := by decide +kernel
theorem dX10_may_83 : decode cX10_may 83 = .ok (.iconst 1, 1) := by decide +kernel
theorem dX10_may_84 : decode cX10_may 84 = .ok (.isub, 1) := by decide +kernel
theorem dX10_may_85 : decode cX10_may 85 = .ok (.i2l, 1) := by decide +kernel
theorem dX10_may_86 : decode cX10_may 86 = .ok (.invokestatic 101, 3) := by decide +kernel
theorem dX10_may_89 : decode cX10_may 89 = .ok (.ifCond .ne 5, 3) := by decide +kernel
theorem dX10_may_92 : decode cX10_may 92 = .ok (.iconst 0, 1) := by decide +kernel
theorem dX10_may_93 : decode cX10_may 93 = .ok (.ireturn, 1) := by decide +kernel
theorem dX10_may_94 : decode cX10_may 94 = .ok (.lload 8, 2) := by decide +kernel
theorem dX10_may_96 : decode cX10_may 96 = .ok (.l2i, 1) := by decide +kernel
theorem dX10_may_97 : decode cX10_may 97 = .ok (.istore 10, 2) := by decide +kernel
theorem dX10_may_99 : decode cX10_may 99 = .ok (.iload 4, 2) := by decide +kernel
theorem dX10_may_101 : decode cX10_may 101 = .ok (.iload 10, 2) := by decide +kernel
theorem dX10_may_103 : decode cX10_may 103 = .ok (.invokestatic 294, 3) := by decide +kernel
theorem dX10_may_106 : decode cX10_may 106 = .ok (.ifCond .ne 13, 3) := by decide +kernel
theorem dX10_may_109 : decode cX10_may 109 = .ok (.aload_n 0, 1) := by decide +kernel
theorem dX10_may_110 : decode cX10_may 110 = .ok (.getfield 43, 3) := by decide +kernel
theorem dX10_may_113 : decode cX10_may 113 = .ok (.iload 10, 2) := by decide +kernel
theorem dX10_may_115 : decode cX10_may 115 = .ok (.iaload, 1) := by decide +kernel
theorem dX10_may_116 : decode cX10_may 116 = .ok (.ifCond .ne 5, 3) := by decide +kernel
theorem dX10_may_119 : decode cX10_may 119 = .ok (.iconst 0, 1) := by decide +kernel
theorem dX10_may_120 : decode cX10_may 120 = .ok (.ireturn, 1) := by decide +kernel
theorem dX10_may_121 : decode cX10_may 121 = .ok (.iload 4, 2) := by decide +kernel
theorem dX10_may_123 : decode cX10_may 123 = .ok (.iconst 1, 1) := by decide +kernel
theorem dX10_may_124 : decode cX10_may 124 = .ok (.iload 10, 2) := by decide +kernel
theorem dX10_may_126 : decode cX10_may 126 = .ok (.ishl, 1) := by decide +kernel
theorem dX10_may_127 : decode cX10_may 127 = .ok (.ior, 1) := by decide +kernel
theorem dX10_may_128 : decode cX10_may 128 = .ok (.istore 4, 2) := by decide +kernel
theorem dX10_may_130 : decode cX10_may 130 = .ok (.aload_n 0, 1) := by decide +kernel
theorem dX10_may_131 : decode cX10_may 131 = .ok (.iload 5, 2) := by decide +kernel
theorem dX10_may_133 : decode cX10_may 133 = .ok (.iload 6, 2) := by decide +kernel
theorem dX10_may_135 : decode cX10_may 135 = .ok (.iload 10, 2) := by decide +kernel
theorem dX10_may_137 : decode cX10_may 137 = .ok (.iload_n 3, 1) := by decide +kernel
theorem dX10_may_138 : decode cX10_may 138 = .ok (.invokevirtual 405, 3) := by decide +kernel
theorem dX10_may_141 : decode cX10_may 141 = .ok (.istore 6, 2) := by decide +kernel
theorem dX10_may_143 : decode cX10_may 143 = .ok (.iload 6, 2) := by decide +kernel
theorem dX10_may_145 : decode cX10_may 145 = .ok (.iconst (-1), 1) := by decide +kernel
theorem dX10_may_146 : decode cX10_may 146 = .ok (.if_icmp .ne 5, 3) := by decide +kernel
theorem dX10_may_149 : decode cX10_may 149 = .ok (.iconst 0, 1) := by decide +kernel
theorem dX10_may_150 : decode cX10_may 150 = .ok (.ireturn, 1) := by decide +kernel
theorem dX10_may_151 : decode cX10_may 151 = .ok (.iload 10, 2) := by decide +kernel
theorem dX10_may_153 : decode cX10_may 153 = .ok (.istore 5, 2) := by decide +kernel
theorem dX10_may_155 : decode cX10_may 155 = .ok (.iinc 7 1, 3) := by decide +kernel
theorem dX10_may_158 : decode cX10_may 158 = .ok (.goto (-109), 3) := by decide +kernel
theorem dX10_may_161 : decode cX10_may 161 = .ok (.iconst 1, 1) := by decide +kernel
theorem dX10_may_162 : decode cX10_may 162 = .ok (.ireturn, 1) := by decide +kernel
theorem dX10_listsTen_0 : decode cX10_listsTen 0 = .ok (.aload_n 0, 1) := by decide +kernel
theorem dX10_listsTen_1 : decode cX10_listsTen 1 = .ok (.iload_n 1, 1) := by decide +kernel
theorem dX10_listsTen_2 : decode cX10_listsTen 2 = .ok (.invokevirtual 390, 3) := by decide +kernel
theorem dX10_listsTen_5 : decode cX10_listsTen 5 = .ok (.aload_n 0, 1) := by decide +kernel
theorem dX10_listsTen_6 : decode cX10_listsTen 6 = .ok (.iconst 0, 1) := by decide +kernel
theorem dX10_listsTen_7 : decode cX10_listsTen 7 = .ok (.putfield 438, 3) := by decide +kernel
theorem dX10_listsTen_10 : decode cX10_listsTen 10 = .ok (.iconst 0, 1) := by decide +kernel
theorem dX10_listsTen_11 : decode cX10_listsTen 11 = .ok (.istore_n 2, 1) := by decide +kernel
theorem dX10_listsTen_12 : decode cX10_listsTen 12 = .ok (.iconst 0, 1) := by decide +kernel
theorem dX10_listsTen_13 : decode cX10_listsTen 13 = .ok (.istore_n 3, 1) := by decide +kernel
theorem dX10_listsTen_14 : decode cX10_listsTen 14 = .ok (.iload_n 3, 1) := by decide +kernel
theorem dX10_listsTen_15 : decode cX10_listsTen 15 = .ok (.aload_n 0, 1) := by decide +kernel
theorem dX10_listsTen_16 : decode cX10_listsTen 16 = .ok (.getfield 13, 3) := by decide +kernel
theorem dX10_listsTen_19 : decode cX10_listsTen 19 = .ok (.bipush 7, 2) := by decide +kernel
theorem dX10_listsTen_21 : decode cX10_listsTen 21 = .ok (.iaload, 1) := by decide +kernel
theorem dX10_listsTen_22 : decode cX10_listsTen 22 = .ok (.if_icmp .ge 62, 3) := by decide +kernel
theorem dX10_listsTen_25 : decode cX10_listsTen 25 = .ok (.aload_n 0, 1) := by decide +kernel
theorem dX10_listsTen_26 : decode cX10_listsTen 26 = .ok (.getfield 438, 3) := by decide +kernel
theorem dX10_listsTen_29 : decode cX10_listsTen 29 = .ok (.bipush 10, 2) := by decide +kernel
theorem dX10_listsTen_31 : decode cX10_listsTen 31 = .ok (.if_icmp .ge 53, 3) := by decide +kernel
theorem dX10_listsTen_34 : decode cX10_listsTen 34 = .ok (.aload_n 0, 1) := by decide +kernel
theorem dX10_listsTen_35 : decode cX10_listsTen 35 = .ok (.iload_n 3, 1) := by decide +kernel
theorem dX10_listsTen_36 : decode cX10_listsTen 36 = .ok (.iconst 0, 1) := by decide +kernel
theorem dX10_listsTen_37 : decode cX10_listsTen 37 = .ok (.invokevirtual 325, 3) := by decide +kernel
theorem dX10_listsTen_40 : decode cX10_listsTen 40 = .ok (.iload_n 1, 1) := by decide +kernel
theorem dX10_listsTen_41 : decode cX10_listsTen 41 = .ok (.if_icmp .eq 6, 3) := by decide +kernel
theorem dX10_listsTen_44 : decode cX10_listsTen 44 = .ok (.goto 34, 3) := by decide +kernel
theorem dX10_listsTen_47 : decode cX10_listsTen 47 = .ok (.aload_n 0, 1) := by decide +kernel
theorem dX10_listsTen_48 : decode cX10_listsTen 48 = .ok (.getfield 55, 3) := by decide +kernel
theorem dX10_listsTen_51 : decode cX10_listsTen 51 = .ok (.aload_n 0, 1) := by decide +kernel
theorem dX10_listsTen_52 : decode cX10_listsTen 52 = .ok (.getfield 438, 3) := by decide +kernel
theorem dX10_listsTen_55 : decode cX10_listsTen 55 = .ok (.iload_n 3, 1) := by decide +kernel
theorem dX10_listsTen_56 : decode cX10_listsTen 56 = .ok (.iastore, 1) := by decide +kernel
theorem dX10_listsTen_57 : decode cX10_listsTen 57 = .ok (.aload_n 0, 1) := by decide +kernel
theorem dX10_listsTen_58 : decode cX10_listsTen 58 = .ok (.dup, 1) := by decide +kernel
theorem dX10_listsTen_59 : decode cX10_listsTen 59 = .ok (.getfield 438, 3) := by decide +kernel
theorem dX10_listsTen_62 : decode cX10_listsTen 62 = .ok (.iconst 1, 1) := by decide +kernel
theorem dX10_listsTen_63 : decode cX10_listsTen 63 = .ok (.iadd, 1) := by decide +kernel
theorem dX10_listsTen_64 : decode cX10_listsTen 64 = .ok (.putfield 438, 3) := by decide +kernel
theorem dX10_listsTen_67 : decode cX10_listsTen 67 = .ok (.iload_n 2, 1) := by decide +kernel
theorem dX10_listsTen_68 : decode cX10_listsTen 68 = .ok (.iconst 1, 1) := by decide +kernel
theorem dX10_listsTen_69 : decode cX10_listsTen 69 = .ok (.aload_n 0, 1) := by decide +kernel
theorem dX10_listsTen_70 : decode cX10_listsTen 70 = .ok (.iload_n 3, 1) := by decide +kernel
theorem dX10_listsTen_71 : decode cX10_listsTen 71 = .ok (.iconst 1, 1) := by decide +kernel
theorem dX10_listsTen_72 : decode cX10_listsTen 72 = .ok (.invokevirtual 325, 3) := by decide +kernel
theorem dX10_listsTen_75 : decode cX10_listsTen 75 = .ok (.ishl, 1) := by decide +kernel
theorem dX10_listsTen_76 : decode cX10_listsTen 76 = .ok (.ior, 1) := by decide +kernel
theorem dX10_listsTen_77 : decode cX10_listsTen 77 = .ok (.istore_n 2, 1) := by decide +kernel
theorem dX10_listsTen_78 : decode cX10_listsTen 78 = .ok (.iinc 3 1, 3) := by decide +kernel
theorem dX10_listsTen_81 : decode cX10_listsTen 81 = .ok (.goto (-67), 3) := by decide +kernel
theorem dX10_listsTen_84 : decode cX10_listsTen 84 = .ok (.aload_n 0, 1) := by decide +kernel
theorem dX10_listsTen_85 : decode cX10_listsTen 85 = .ok (.iconst 0, 1) := by decide +kernel
theorem dX10_listsTen_86 : decode cX10_listsTen 86 = .ok (.putfield 393, 3) := by decide +kernel
theorem dX10_listsTen_89 : decode cX10_listsTen 89 = .ok (.iconst 0, 1) := by decide +kernel
theorem dX10_listsTen_90 : decode cX10_listsTen 90 = .ok (.istore_n 3, 1) := by decide +kernel
theorem dX10_listsTen_91 : decode cX10_listsTen 91 = .ok (.iload_n 3, 1) := by decide +kernel
theorem dX10_listsTen_92 : decode cX10_listsTen 92 = .ok (.bipush 16, 2) := by decide +kernel
theorem dX10_listsTen_94 : decode cX10_listsTen 94 = .ok (.if_icmp .ge 40, 3) := by decide +kernel
theorem dX10_listsTen_97 : decode cX10_listsTen 97 = .ok (.iload_n 2, 1) := by decide +kernel
theorem dX10_listsTen_98 : decode cX10_listsTen 98 = .ok (.iload_n 3, 1) := by decide +kernel
theorem dX10_listsTen_99 : decode cX10_listsTen 99 = .ok (.invokestatic 294, 3) := by decide +kernel
theorem dX10_listsTen_102 : decode cX10_listsTen 102 = .ok (.ifCond .ne 6, 3) := by decide +kernel
theorem dX10_listsTen_105 : decode cX10_listsTen 105 = .ok (.goto 23, 3) := by decide +kernel
theorem dX10_listsTen_108 : decode cX10_listsTen 108 = .ok (.aload_n 0, 1) := by decide +kernel
theorem dX10_listsTen_109 : decode cX10_listsTen 109 = .ok (.getfield 40, 3) := by decide +kernel
theorem dX10_listsTen_112 : decode cX10_listsTen 112 = .ok (.aload_n 0, 1) := by decide +kernel
theorem dX10_listsTen_113 : decode cX10_listsTen 113 = .ok (.getfield 393, 3) := by decide +kernel
theorem dX10_listsTen_116 : decode cX10_listsTen 116 = .ok (.iload_n 3, 1) := by decide +kernel
theorem dX10_listsTen_117 : decode cX10_listsTen 117 = .ok (.iastore, 1) := by decide +kernel
theorem dX10_listsTen_118 : decode cX10_listsTen 118 = .ok (.aload_n 0, 1) := by decide +kernel
theorem dX10_listsTen_119 : decode cX10_listsTen 119 = .ok (.dup, 1) := by decide +kernel
theorem dX10_listsTen_120 : decode cX10_listsTen 120 = .ok (.getfield 393, 3) := by decide +kernel
theorem dX10_listsTen_123 : decode cX10_listsTen 123 = .ok (.iconst 1, 1) := by decide +kernel
theorem dX10_listsTen_124 : decode cX10_listsTen 124 = .ok (.iadd, 1) := by decide +kernel
theorem dX10_listsTen_125 : decode cX10_listsTen 125 = .ok (.putfield 393, 3) := by decide +kernel
theorem dX10_listsTen_128 : decode cX10_listsTen 128 = .ok (.iinc 3 1, 3) := by decide +kernel
theorem dX10_listsTen_131 : decode cX10_listsTen 131 = .ok (.goto (-40), 3) := by decide +kernel
theorem dX10_listsTen_134 : decode cX10_listsTen 134 = .ok (.return_, 1) := by decide +kernel
theorem dX10_covers_0 : decode cX10_covers 0 = .ok (.iconst 0, 1) := by decide +kernel
theorem dX10_covers_1 : decode cX10_covers 1 = .ok (.istore_n 3, 1) := by decide +kernel
theorem dX10_covers_2 : decode cX10_covers 2 = .ok (.iconst 0, 1) := by decide +kernel
theorem dX10_covers_3 : decode cX10_covers 3 = .ok (.istore 4, 2) := by decide +kernel
theorem dX10_covers_5 : decode cX10_covers 5 = .ok (.iload 4, 2) := by decide +kernel
theorem dX10_covers_7 : decode cX10_covers 7 = .ok (.aload_n 0, 1) := by decide +kernel
theorem dX10_covers_8 : decode cX10_covers 8 = .ok (.getfield 438, 3) := by decide +kernel
theorem dX10_covers_11 : decode cX10_covers 11 = .ok (.if_icmp .ge 81, 3) := by decide +kernel
theorem dX10_covers_14 : decode cX10_covers 14 = .ok (.iconst 0, 1) := by decide +kernel
theorem dX10_covers_15 : decode cX10_covers 15 = .ok (.istore 5, 2) := by decide +kernel
theorem dX10_covers_17 : decode cX10_covers 17 = .ok (.iload 5, 2) := by decide +kernel
theorem dX10_covers_19 : decode cX10_covers 19 = .ok (.aload_n 0, 1) := by decide +kernel
theorem dX10_covers_20 : decode cX10_covers 20 = .ok (.getfield 393, 3) := by decide +kernel
theorem dX10_covers_23 : decode cX10_covers 23 = .ok (.if_icmp .ge 63, 3) := by decide +kernel
theorem dX10_covers_26 : decode cX10_covers 26 = .ok (.iload_n 1, 1) := by decide +kernel
theorem dX10_covers_27 : decode cX10_covers 27 = .ok (.iload 5, 2) := by decide +kernel
theorem dX10_covers_29 : decode cX10_covers 29 = .ok (.invokestatic 294, 3) := by decide +kernel
theorem dX10_covers_32 : decode cX10_covers 32 = .ok (.ifCond .eq 48, 3) := by decide +kernel
theorem dX10_covers_35 : decode cX10_covers 35 = .ok (.aload_n 0, 1) := by decide +kernel
theorem dX10_covers_36 : decode cX10_covers 36 = .ok (.getfield 40, 3) := by decide +kernel
theorem dX10_covers_39 : decode cX10_covers 39 = .ok (.iload 5, 2) := by decide +kernel
theorem dX10_covers_41 : decode cX10_covers 41 = .ok (.iaload, 1) := by decide +kernel
theorem dX10_covers_42 : decode cX10_covers 42 = .ok (.aload_n 0, 1) := by decide +kernel
theorem dX10_covers_43 : decode cX10_covers 43 = .ok (.aload_n 0, 1) := by decide +kernel
theorem dX10_covers_44 : decode cX10_covers 44 = .ok (.getfield 55, 3) := by decide +kernel
theorem dX10_covers_47 : decode cX10_covers 47 = .ok (.iload 4, 2) := by decide +kernel
theorem dX10_covers_49 : decode cX10_covers 49 = .ok (.iaload, 1) := by decide +kernel
theorem dX10_covers_50 : decode cX10_covers 50 = .ok (.iconst 1, 1) := by decide +kernel
theorem dX10_covers_51 : decode cX10_covers 51 = .ok (.invokevirtual 325, 3) := by decide +kernel
theorem dX10_covers_54 : decode cX10_covers 54 = .ok (.if_icmp .ne 26, 3) := by decide +kernel
theorem dX10_covers_57 : decode cX10_covers 57 = .ok (.aload_n 0, 1) := by decide +kernel
theorem dX10_covers_58 : decode cX10_covers 58 = .ok (.aload_n 0, 1) := by decide +kernel
theorem dX10_covers_59 : decode cX10_covers 59 = .ok (.getfield 55, 3) := by decide +kernel
theorem dX10_covers_62 : decode cX10_covers 62 = .ok (.iload 4, 2) := by decide +kernel
theorem dX10_covers_64 : decode cX10_covers 64 = .ok (.iaload, 1) := by decide +kernel
theorem dX10_covers_65 : decode cX10_covers 65 = .ok (.iconst 3, 1) := by decide +kernel
theorem dX10_covers_66 : decode cX10_covers 66 = .ok (.invokevirtual 325, 3) := by decide +kernel
theorem dX10_covers_69 : decode cX10_covers 69 = .ok (.iload_n 2, 1) := by decide +kernel
theorem dX10_covers_70 : decode cX10_covers 70 = .ok (.if_icmp .lt 10, 3) := by decide +kernel
theorem dX10_covers_73 : decode cX10_covers 73 = .ok (.iload_n 3, 1) := by decide +kernel
theorem dX10_covers_74 : decode cX10_covers 74 = .ok (.iconst 1, 1) := by decide +kernel
theorem dX10_covers_75 : decode cX10_covers 75 = .ok (.iload 4, 2) := by decide +kernel
theorem dX10_covers_77 : decode cX10_covers 77 = .ok (.ishl, 1) := by decide +kernel
theorem dX10_covers_78 : decode cX10_covers 78 = .ok (.ior, 1) := by decide +kernel
theorem dX10_covers_79 : decode cX10_covers 79 = .ok (.istore_n 3, 1) := by decide +kernel
theorem dX10_covers_80 : decode cX10_covers 80 = .ok (.iinc 5 1, 3) := by decide +kernel
theorem dX10_covers_83 : decode cX10_covers 83 = .ok (.goto (-66), 3) := by decide +kernel
theorem dX10_covers_86 : decode cX10_covers 86 = .ok (.iinc 4 1, 3) := by decide +kernel
theorem dX10_covers_89 : decode cX10_covers 89 = .ok (.goto (-84), 3) := by decide +kernel
theorem dX10_covers_92 : decode cX10_covers 92 = .ok (.iload_n 3, 1) := by decide +kernel
theorem dX10_covers_93 : decode cX10_covers 93 = .ok (.ireturn, 1) := by decide +kernel
theorem dX10_fewest_0 : decode cX10_fewest 0 = .ok (.aload_n 0, 1) := by decide +kernel
theorem dX10_fewest_1 : decode cX10_fewest 1 = .ok (.iload_n 1, 1) := by decide +kernel
theorem dX10_fewest_2 : decode cX10_fewest 2 = .ok (.invokevirtual 105, 3) := by decide +kernel
theorem dX10_fewest_5 : decode cX10_fewest 5 = .ok (.ifCond .ne 6, 3) := by decide +kernel
theorem dX10_fewest_8 : decode cX10_fewest 8 = .ok (.bipush (-2), 2) := by decide +kernel
theorem dX10_fewest_10 : decode cX10_fewest 10 = .ok (.ireturn, 1) := by decide +kernel
theorem dX10_fewest_11 : decode cX10_fewest 11 = .ok (.aload_n 0, 1) := by decide +kernel
theorem dX10_fewest_12 : decode cX10_fewest 12 = .ok (.iload_n 1, 1) := by decide +kernel
theorem dX10_fewest_13 : decode cX10_fewest 13 = .ok (.invokevirtual 441, 3) := by decide +kernel
theorem dX10_fewest_16 : decode cX10_fewest 16 = .ok (.iconst 1, 1) := by decide +kernel
theorem dX10_fewest_17 : decode cX10_fewest 17 = .ok (.aload_n 0, 1) := by decide +kernel
theorem dX10_fewest_18 : decode cX10_fewest 18 = .ok (.getfield 438, 3) := by decide +kernel
theorem dX10_fewest_21 : decode cX10_fewest 21 = .ok (.ishl, 1) := by decide +kernel
theorem dX10_fewest_22 : decode cX10_fewest 22 = .ok (.iconst 1, 1) := by decide +kernel
theorem dX10_fewest_23 : decode cX10_fewest 23 = .ok (.isub, 1) := by decide +kernel
theorem dX10_fewest_24 : decode cX10_fewest 24 = .ok (.istore_n 2, 1) := by decide +kernel
theorem dX10_fewest_25 : decode cX10_fewest 25 = .ok (.iconst 0, 1) := by decide +kernel
theorem dX10_fewest_26 : decode cX10_fewest 26 = .ok (.istore_n 3, 1) := by decide +kernel
theorem dX10_fewest_27 : decode cX10_fewest 27 = .ok (.iload_n 3, 1) := by decide +kernel
theorem dX10_fewest_28 : decode cX10_fewest 28 = .ok (.iload_n 2, 1) := by decide +kernel
theorem dX10_fewest_29 : decode cX10_fewest 29 = .ok (.if_icmp .gt 24, 3) := by decide +kernel
theorem dX10_fewest_32 : decode cX10_fewest 32 = .ok (.aload_n 0, 1) := by decide +kernel
theorem dX10_fewest_33 : decode cX10_fewest 33 = .ok (.getfield 58, 3) := by decide +kernel
theorem dX10_fewest_36 : decode cX10_fewest 36 = .ok (.iload_n 3, 1) := by decide +kernel
theorem dX10_fewest_37 : decode cX10_fewest 37 = .ok (.iload_n 3, 1) := by decide +kernel
theorem dX10_fewest_38 : decode cX10_fewest 38 = .ok (.ifCond .ne 7, 3) := by decide +kernel
theorem dX10_fewest_41 : decode cX10_fewest 41 = .ok (.iconst 0, 1) := by decide +kernel
theorem dX10_fewest_42 : decode cX10_fewest 42 = .ok (.goto 4, 3) := by decide +kernel
theorem dX10_fewest_45 : decode cX10_fewest 45 = .ok (.iconst (-1), 1) := by decide +kernel
theorem dX10_fewest_46 : decode cX10_fewest 46 = .ok (.iastore, 1) := by decide +kernel
theorem dX10_fewest_47 : decode cX10_fewest 47 = .ok (.iinc 3 1, 3) := by decide +kernel
theorem dX10_fewest_50 : decode cX10_fewest 50 = .ok (.goto (-23), 3) := by decide +kernel
theorem dX10_fewest_53 : decode cX10_fewest 53 = .ok (.aload_n 0, 1) := by decide +kernel
theorem dX10_fewest_54 : decode cX10_fewest 54 = .ok (.invokevirtual 291, 3) := by decide +kernel
theorem dX10_fewest_57 : decode cX10_fewest 57 = .ok (.istore_n 3, 1) := by decide +kernel
theorem dX10_fewest_58 : decode cX10_fewest 58 = .ok (.iload_n 3, 1) := by decide +kernel
theorem dX10_fewest_59 : decode cX10_fewest 59 = .ok (.sipush 399, 3) := by decide +kernel
theorem dX10_fewest_62 : decode cX10_fewest 62 = .ok (.aload_n 0, 1) := by decide +kernel
theorem dX10_fewest_63 : decode cX10_fewest 63 = .ok (.invokevirtual 291, 3) := by decide +kernel
theorem dX10_fewest_66 : decode cX10_fewest 66 = .ok (.bipush 6, 2) := by decide +kernel
theorem dX10_fewest_68 : decode cX10_fewest 68 = .ok (.iadd, 1) := by decide +kernel
theorem dX10_fewest_69 : decode cX10_fewest 69 = .ok (.invokestatic 139, 3) := by decide +kernel
theorem dX10_fewest_72 : decode cX10_fewest 72 = .ok (.if_icmp .gt 185, 3) := by decide +kernel
theorem dX10_fewest_75 : decode cX10_fewest 75 = .ok (.aload_n 0, 1) := by decide +kernel
theorem dX10_fewest_76 : decode cX10_fewest 76 = .ok (.iload_n 1, 1) := by decide +kernel
theorem dX10_fewest_77 : decode cX10_fewest 77 = .ok (.iconst 0, 1) := by decide +kernel
theorem dX10_fewest_78 : decode cX10_fewest 78 = .ok (.iconst 1, 1) := by decide +kernel
theorem dX10_fewest_79 : decode cX10_fewest 79 = .ok (.aload_n 0, 1) := by decide +kernel
theorem dX10_fewest_80 : decode cX10_fewest 80 = .ok (.getfield 393, 3) := by decide +kernel
theorem dX10_fewest_83 : decode cX10_fewest 83 = .ok (.ishl, 1) := by decide +kernel
theorem dX10_fewest_84 : decode cX10_fewest 84 = .ok (.iconst 1, 1) := by decide +kernel
theorem dX10_fewest_85 : decode cX10_fewest 85 = .ok (.isub, 1) := by decide +kernel
theorem dX10_fewest_86 : decode cX10_fewest 86 = .ok (.iload_n 3, 1) := by decide +kernel
theorem dX10_fewest_87 : decode cX10_fewest 87 = .ok (.invokevirtual 411, 3) := by decide +kernel
theorem dX10_fewest_90 : decode cX10_fewest 90 = .ok (.iconst 1, 1) := by decide +kernel
theorem dX10_fewest_91 : decode cX10_fewest 91 = .ok (.istore 4, 2) := by decide +kernel
theorem dX10_fewest_93 : decode cX10_fewest 93 = .ok (.iload 4, 2) := by decide +kernel
theorem dX10_fewest_95 : decode cX10_fewest 95 = .ok (.iconst 1, 1) := by decide +kernel
theorem dX10_fewest_96 : decode cX10_fewest 96 = .ok (.aload_n 0, 1) := by decide +kernel
theorem dX10_fewest_97 : decode cX10_fewest 97 = .ok (.getfield 393, 3) := by decide +kernel
theorem dX10_fewest_100 : decode cX10_fewest 100 = .ok (.ishl, 1) := by decide +kernel
theorem dX10_fewest_101 : decode cX10_fewest 101 = .ok (.if_icmp .ge 37, 3) := by decide +kernel
theorem dX10_fewest_104 : decode cX10_fewest 104 = .ok (.aload_n 0, 1) := by decide +kernel
theorem dX10_fewest_105 : decode cX10_fewest 105 = .ok (.getfield 61, 3) := by decide +kernel
theorem dX10_fewest_108 : decode cX10_fewest 108 = .ok (.iload 4, 2) := by decide +kernel
theorem dX10_fewest_110 : decode cX10_fewest 110 = .ok (.aload_n 0, 1) := by decide +kernel
theorem dX10_fewest_111 : decode cX10_fewest 111 = .ok (.iload 4, 2) := by decide +kernel
theorem dX10_fewest_113 : decode cX10_fewest 113 = .ok (.invokevirtual 424, 3) := by decide +kernel
theorem dX10_fewest_116 : decode cX10_fewest 116 = .ok (.iconst (-1), 1) := by decide +kernel
theorem dX10_fewest_117 : decode cX10_fewest 117 = .ok (.if_icmp .ne 7, 3) := by decide +kernel
theorem dX10_fewest_120 : decode cX10_fewest 120 = .ok (.iconst 0, 1) := by decide +kernel
theorem dX10_fewest_121 : decode cX10_fewest 121 = .ok (.goto 10, 3) := by decide +kernel
theorem dX10_fewest_124 : decode cX10_fewest 124 = .ok (.aload_n 0, 1) := by decide +kernel
theorem dX10_fewest_125 : decode cX10_fewest 125 = .ok (.iload 4, 2) := by decide +kernel
theorem dX10_fewest_127 : decode cX10_fewest 127 = .ok (.iload_n 3, 1) := by decide +kernel
theorem dX10_fewest_128 : decode cX10_fewest 128 = .ok (.invokevirtual 444, 3) := by decide +kernel
theorem dX10_fewest_131 : decode cX10_fewest 131 = .ok (.iastore, 1) := by decide +kernel
theorem dX10_fewest_132 : decode cX10_fewest 132 = .ok (.iinc 4 1, 3) := by decide +kernel
theorem dX10_fewest_135 : decode cX10_fewest 135 = .ok (.goto (-42), 3) := by decide +kernel
theorem dX10_fewest_138 : decode cX10_fewest 138 = .ok (.iload_n 2, 1) := by decide +kernel
theorem dX10_fewest_139 : decode cX10_fewest 139 = .ok (.istore 4, 2) := by decide +kernel
theorem dX10_fewest_141 : decode cX10_fewest 141 = .ok (.iload 4, 2) := by decide +kernel
theorem dX10_fewest_143 : decode cX10_fewest 143 = .ok (.ifCond .lt 108, 3) := by decide +kernel
theorem dX10_fewest_146 : decode cX10_fewest 146 = .ok (.aload_n 0, 1) := by decide +kernel
theorem dX10_fewest_147 : decode cX10_fewest 147 = .ok (.getfield 58, 3) := by decide +kernel
theorem dX10_fewest_150 : decode cX10_fewest 150 = .ok (.iload 4, 2) := by decide +kernel
theorem dX10_fewest_152 : decode cX10_fewest 152 = .ok (.iaload, 1) := by decide +kernel
theorem dX10_fewest_153 : decode cX10_fewest 153 = .ok (.iconst (-1), 1) := by decide +kernel
theorem dX10_fewest_154 : decode cX10_fewest 154 = .ok (.if_icmp .ne 6, 3) := by decide +kernel
theorem dX10_fewest_157 : decode cX10_fewest 157 = .ok (.goto 88, 3) := by decide +kernel
theorem dX10_fewest_160 : decode cX10_fewest 160 = .ok (.iconst 1, 1) := by decide +kernel
theorem dX10_fewest_161 : decode cX10_fewest 161 = .ok (.istore 5, 2) := by decide +kernel
theorem dX10_fewest_163 : decode cX10_fewest 163 = .ok (.iload 5, 2) := by decide +kernel
theorem dX10_fewest_165 : decode cX10_fewest 165 = .ok (.iconst 1, 1) := by decide +kernel
theorem dX10_fewest_166 : decode cX10_fewest 166 = .ok (.aload_n 0, 1) := by decide +kernel
theorem dX10_fewest_167 : decode cX10_fewest 167 = .ok (.getfield 393, 3) := by decide +kernel
theorem dX10_fewest_170 : decode cX10_fewest 170 = .ok (.ishl, 1) := by decide +kernel
theorem dX10_fewest_171 : decode cX10_fewest 171 = .ok (.if_icmp .ge 74, 3) := by decide +kernel
theorem dX10_fewest_174 : decode cX10_fewest 174 = .ok (.iload 4, 2) := by decide +kernel
theorem dX10_fewest_176 : decode cX10_fewest 176 = .ok (.aload_n 0, 1) := by decide +kernel
theorem dX10_fewest_177 : decode cX10_fewest 177 = .ok (.getfield 61, 3) := by decide +kernel
theorem dX10_fewest_180 : decode cX10_fewest 180 = .ok (.iload 5, 2) := by decide +kernel
theorem dX10_fewest_182 : decode cX10_fewest 182 = .ok (.iaload, 1) := by decide +kernel
theorem dX10_fewest_183 : decode cX10_fewest 183 = .ok (.ior, 1) := by decide +kernel
theorem dX10_fewest_184 : decode cX10_fewest 184 = .ok (.istore 6, 2) := by decide +kernel
theorem dX10_fewest_186 : decode cX10_fewest 186 = .ok (.iload 6, 2) := by decide +kernel
theorem dX10_fewest_188 : decode cX10_fewest 188 = .ok (.iload 4, 2) := by decide +kernel
theorem dX10_fewest_190 : decode cX10_fewest 190 = .ok (.if_icmp .eq 49, 3) := by decide +kernel
theorem dX10_fewest_193 : decode cX10_fewest 193 = .ok (.aload_n 0, 1) := by decide +kernel
theorem dX10_fewest_194 : decode cX10_fewest 194 = .ok (.getfield 58, 3) := by decide +kernel
theorem dX10_fewest_197 : decode cX10_fewest 197 = .ok (.iload 6, 2) := by decide +kernel
theorem dX10_fewest_199 : decode cX10_fewest 199 = .ok (.iaload, 1) := by decide +kernel
theorem dX10_fewest_200 : decode cX10_fewest 200 = .ok (.iconst (-1), 1) := by decide +kernel
theorem dX10_fewest_201 : decode cX10_fewest 201 = .ok (.if_icmp .eq 22, 3) := by decide +kernel
theorem dX10_fewest_204 : decode cX10_fewest 204 = .ok (.aload_n 0, 1) := by decide +kernel
theorem dX10_fewest_205 : decode cX10_fewest 205 = .ok (.getfield 58, 3) := by decide +kernel
theorem dX10_fewest_208 : decode cX10_fewest 208 = .ok (.iload 6, 2) := by decide +kernel
theorem dX10_fewest_210 : decode cX10_fewest 210 = .ok (.iaload, 1) := by decide +kernel
theorem dX10_fewest_211 : decode cX10_fewest 211 = .ok (.aload_n 0, 1) := by decide +kernel
theorem dX10_fewest_212 : decode cX10_fewest 212 = .ok (.getfield 58, 3) := by decide +kernel
theorem dX10_fewest_215 : decode cX10_fewest 215 = .ok (.iload 4, 2) := by decide +kernel
theorem dX10_fewest_217 : decode cX10_fewest 217 = .ok (.iaload, 1) := by decide +kernel
theorem dX10_fewest_218 : decode cX10_fewest 218 = .ok (.iconst 1, 1) := by decide +kernel
theorem dX10_fewest_219 : decode cX10_fewest 219 = .ok (.iadd, 1) := by decide +kernel
theorem dX10_fewest_220 : decode cX10_fewest 220 = .ok (.if_icmp .le 19, 3) := by decide +kernel
theorem dX10_fewest_223 : decode cX10_fewest 223 = .ok (.aload_n 0, 1) := by decide +kernel
theorem dX10_fewest_224 : decode cX10_fewest 224 = .ok (.getfield 58, 3) := by decide +kernel
theorem dX10_fewest_227 : decode cX10_fewest 227 = .ok (.iload 6, 2) := by decide +kernel
theorem dX10_fewest_229 : decode cX10_fewest 229 = .ok (.aload_n 0, 1) := by decide +kernel
theorem dX10_fewest_230 : decode cX10_fewest 230 = .ok (.getfield 58, 3) := by decide +kernel
theorem dX10_fewest_233 : decode cX10_fewest 233 = .ok (.iload 4, 2) := by decide +kernel
theorem dX10_fewest_235 : decode cX10_fewest 235 = .ok (.iaload, 1) := by decide +kernel
theorem dX10_fewest_236 : decode cX10_fewest 236 = .ok (.iconst 1, 1) := by decide +kernel
theorem dX10_fewest_237 : decode cX10_fewest 237 = .ok (.iadd, 1) := by decide +kernel
theorem dX10_fewest_238 : decode cX10_fewest 238 = .ok (.iastore, 1) := by decide +kernel
theorem dX10_fewest_239 : decode cX10_fewest 239 = .ok (.iinc 5 1, 3) := by decide +kernel
theorem dX10_fewest_242 : decode cX10_fewest 242 = .ok (.goto (-79), 3) := by decide +kernel
theorem dX10_fewest_245 : decode cX10_fewest 245 = .ok (.iinc 4 (-1), 3) := by decide +kernel
theorem dX10_fewest_248 : decode cX10_fewest 248 = .ok (.goto (-107), 3) := by decide +kernel
theorem dX10_fewest_251 : decode cX10_fewest 251 = .ok (.iinc 3 1, 3) := by decide +kernel
theorem dX10_fewest_254 : decode cX10_fewest 254 = .ok (.goto (-196), 3) := by decide +kernel
theorem dX10_fewest_257 : decode cX10_fewest 257 = .ok (.aload_n 0, 1) := by decide +kernel
theorem dX10_fewest_258 : decode cX10_fewest 258 = .ok (.getfield 58, 3) := by decide +kernel
theorem dX10_fewest_261 : decode cX10_fewest 261 = .ok (.iload_n 2, 1) := by decide +kernel
theorem dX10_fewest_262 : decode cX10_fewest 262 = .ok (.iaload, 1) := by decide +kernel
theorem dX10_fewest_263 : decode cX10_fewest 263 = .ok (.ireturn, 1) := by decide +kernel
theorem dX10_lost_0 : decode cX10_lost 0 = .ok (.aload_n 0, 1) := by decide +kernel
theorem dX10_lost_1 : decode cX10_lost 1 = .ok (.iload_n 1, 1) := by decide +kernel
theorem dX10_lost_2 : decode cX10_lost 2 = .ok (.invokevirtual 105, 3) := by decide +kernel
theorem dX10_lost_5 : decode cX10_lost 5 = .ok (.ifCond .ne 6, 3) := by decide +kernel
theorem dX10_lost_8 : decode cX10_lost 8 = .ok (.bipush (-2), 2) := by decide +kernel
theorem dX10_lost_10 : decode cX10_lost 10 = .ok (.ireturn, 1) := by decide +kernel
theorem dX10_lost_11 : decode cX10_lost 11 = .ok (.aload_n 0, 1) := by decide +kernel
theorem dX10_lost_12 : decode cX10_lost 12 = .ok (.iload_n 1, 1) := by decide +kernel
theorem dX10_lost_13 : decode cX10_lost 13 = .ok (.invokevirtual 441, 3) := by decide +kernel
theorem dX10_lost_16 : decode cX10_lost 16 = .ok (.iconst 0, 1) := by decide +kernel
theorem dX10_lost_17 : decode cX10_lost 17 = .ok (.istore_n 2, 1) := by decide +kernel
theorem dX10_lost_18 : decode cX10_lost 18 = .ok (.iconst 0, 1) := by decide +kernel
theorem dX10_lost_19 : decode cX10_lost 19 = .ok (.istore_n 3, 1) := by decide +kernel
theorem dX10_lost_20 : decode cX10_lost 20 = .ok (.iload_n 3, 1) := by decide +kernel
theorem dX10_lost_21 : decode cX10_lost 21 = .ok (.aload_n 0, 1) := by decide +kernel
theorem dX10_lost_22 : decode cX10_lost 22 = .ok (.getfield 438, 3) := by decide +kernel
theorem dX10_lost_25 : decode cX10_lost 25 = .ok (.if_icmp .ge 106, 3) := by decide +kernel
theorem dX10_lost_28 : decode cX10_lost 28 = .ok (.iconst 0, 1) := by decide +kernel
theorem dX10_lost_29 : decode cX10_lost 29 = .ok (.istore 4, 2) := by decide +kernel
theorem dX10_lost_31 : decode cX10_lost 31 = .ok (.aload_n 0, 1) := by decide +kernel
theorem dX10_lost_32 : decode cX10_lost 32 = .ok (.invokevirtual 291, 3) := by decide +kernel
theorem dX10_lost_35 : decode cX10_lost 35 = .ok (.istore 5, 2) := by decide +kernel
theorem dX10_lost_37 : decode cX10_lost 37 = .ok (.iload 5, 2) := by decide +kernel
theorem dX10_lost_39 : decode cX10_lost 39 = .ok (.sipush 399, 3) := by decide +kernel
theorem dX10_lost_42 : decode cX10_lost 42 = .ok (.aload_n 0, 1) := by decide +kernel
theorem dX10_lost_43 : decode cX10_lost 43 = .ok (.invokevirtual 291, 3) := by decide +kernel
theorem dX10_lost_46 : decode cX10_lost 46 = .ok (.bipush 6, 2) := by decide +kernel
theorem dX10_lost_48 : decode cX10_lost 48 = .ok (.iadd, 1) := by decide +kernel
theorem dX10_lost_49 : decode cX10_lost 49 = .ok (.invokestatic 139, 3) := by decide +kernel
theorem dX10_lost_52 : decode cX10_lost 52 = .ok (.aload_n 0, 1) := by decide +kernel
theorem dX10_lost_53 : decode cX10_lost 53 = .ok (.aload_n 0, 1) := by decide +kernel
theorem dX10_lost_54 : decode cX10_lost 54 = .ok (.getfield 55, 3) := by decide +kernel
theorem dX10_lost_57 : decode cX10_lost 57 = .ok (.iload_n 3, 1) := by decide +kernel
theorem dX10_lost_58 : decode cX10_lost 58 = .ok (.iaload, 1) := by decide +kernel
theorem dX10_lost_59 : decode cX10_lost 59 = .ok (.iconst 3, 1) := by decide +kernel
theorem dX10_lost_60 : decode cX10_lost 60 = .ok (.invokevirtual 325, 3) := by decide +kernel
theorem dX10_lost_63 : decode cX10_lost 63 = .ok (.invokestatic 139, 3) := by decide +kernel
theorem dX10_lost_66 : decode cX10_lost 66 = .ok (.if_icmp .gt 44, 3) := by decide +kernel
theorem dX10_lost_69 : decode cX10_lost 69 = .ok (.iload 4, 2) := by decide +kernel
theorem dX10_lost_71 : decode cX10_lost 71 = .ok (.ifCond .ne 26, 3) := by decide +kernel
theorem dX10_lost_74 : decode cX10_lost 74 = .ok (.aload_n 0, 1) := by decide +kernel
theorem dX10_lost_75 : decode cX10_lost 75 = .ok (.iload_n 1, 1) := by decide +kernel
theorem dX10_lost_76 : decode cX10_lost 76 = .ok (.iconst 0, 1) := by decide +kernel
theorem dX10_lost_77 : decode cX10_lost 77 = .ok (.aload_n 0, 1) := by decide +kernel
theorem dX10_lost_78 : decode cX10_lost 78 = .ok (.aload_n 0, 1) := by decide +kernel
theorem dX10_lost_79 : decode cX10_lost 79 = .ok (.getfield 55, 3) := by decide +kernel
theorem dX10_lost_82 : decode cX10_lost 82 = .ok (.iload_n 3, 1) := by decide +kernel
theorem dX10_lost_83 : decode cX10_lost 83 = .ok (.iaload, 1) := by decide +kernel
theorem dX10_lost_84 : decode cX10_lost 84 = .ok (.iconst 1, 1) := by decide +kernel
theorem dX10_lost_85 : decode cX10_lost 85 = .ok (.invokevirtual 325, 3) := by decide +kernel
theorem dX10_lost_88 : decode cX10_lost 88 = .ok (.iload 5, 2) := by decide +kernel
theorem dX10_lost_90 : decode cX10_lost 90 = .ok (.invokevirtual 405, 3) := by decide +kernel
theorem dX10_lost_93 : decode cX10_lost 93 = .ok (.iconst (-1), 1) := by decide +kernel
theorem dX10_lost_94 : decode cX10_lost 94 = .ok (.if_icmp .eq 7, 3) := by decide +kernel
