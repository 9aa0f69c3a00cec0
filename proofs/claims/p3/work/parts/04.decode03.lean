theorem dX3_readOwes_55 : decode cX3_readOwes 55 = .ok (.iastore, 1) := by decide +kernel
theorem dX3_readOwes_56 : decode cX3_readOwes 56 = .ok (.aload_n 0, 1) := by decide +kernel
theorem dX3_readOwes_57 : decode cX3_readOwes 57 = .ok (.ldc 154, 2) := by decide +kernel
theorem dX3_readOwes_59 : decode cX3_readOwes 59 = .ok (.invokevirtual 97, 3) := by decide +kernel
theorem dX3_readOwes_62 : decode cX3_readOwes 62 = .ok (.pop, 1) := by decide +kernel
theorem dX3_readOwes_63 : decode cX3_readOwes 63 = .ok (.aload_n 0, 1) := by decide +kernel
theorem dX3_readOwes_64 : decode cX3_readOwes 64 = .ok (.getfield 21, 3) := by decide +kernel
theorem dX3_readOwes_67 : decode cX3_readOwes 67 = .ok (.getfield 156, 3) := by decide +kernel
theorem dX3_readOwes_70 : decode cX3_readOwes 70 = .ok (.iload_n 2, 1) := by decide +kernel
theorem dX3_readOwes_71 : decode cX3_readOwes 71 = .ok (.aload_n 0, 1) := by decide +kernel
theorem dX3_readOwes_72 : decode cX3_readOwes 72 = .ok (.iconst 0, 1) := by decide +kernel
theorem dX3_readOwes_73 : decode cX3_readOwes 73 = .ok (.bipush 99, 2) := by decide +kernel
theorem dX3_readOwes_75 : decode cX3_readOwes 75 = .ok (.invokevirtual 80, 3) := by decide +kernel
theorem dX3_readOwes_78 : decode cX3_readOwes 78 = .ok (.iastore, 1) := by decide +kernel
theorem dX3_readOwes_79 : decode cX3_readOwes 79 = .ok (.aload_n 0, 1) := by decide +kernel
theorem dX3_readOwes_80 : decode cX3_readOwes 80 = .ok (.getfield 21, 3) := by decide +kernel
theorem dX3_readOwes_83 : decode cX3_readOwes 83 = .ok (.getfield 158, 3) := by decide +kernel
theorem dX3_readOwes_86 : decode cX3_readOwes 86 = .ok (.iload_n 2, 1) := by decide +kernel
theorem dX3_readOwes_87 : decode cX3_readOwes 87 = .ok (.aload_n 0, 1) := by decide +kernel
theorem dX3_readOwes_88 : decode cX3_readOwes 88 = .ok (.getfield 21, 3) := by decide +kernel
theorem dX3_readOwes_91 : decode cX3_readOwes 91 = .ok (.getfield 161, 3) := by decide +kernel
theorem dX3_readOwes_94 : decode cX3_readOwes 94 = .ok (.iastore, 1) := by decide +kernel
theorem dX3_readOwes_95 : decode cX3_readOwes 95 = .ok (.aload_n 0, 1) := by decide +kernel
theorem dX3_readOwes_96 : decode cX3_readOwes 96 = .ok (.ldc 164, 2) := by decide +kernel
theorem dX3_readOwes_98 : decode cX3_readOwes 98 = .ok (.invokevirtual 128, 3) := by decide +kernel
theorem dX3_readOwes_101 : decode cX3_readOwes 101 = .ok (.ifCond .eq 7, 3) := by decide +kernel
theorem dX3_readOwes_104 : decode cX3_readOwes 104 = .ok (.aload_n 0, 1) := by decide +kernel
theorem dX3_readOwes_105 : decode cX3_readOwes 105 = .ok (.invokevirtual 166, 3) := by decide +kernel
theorem dX3_readOwes_108 : decode cX3_readOwes 108 = .ok (.aload_n 0, 1) := by decide +kernel
theorem dX3_readOwes_109 : decode cX3_readOwes 109 = .ok (.getfield 21, 3) := by decide +kernel
theorem dX3_readOwes_112 : decode cX3_readOwes 112 = .ok (.getfield 169, 3) := by decide +kernel
theorem dX3_readOwes_115 : decode cX3_readOwes 115 = .ok (.iload_n 2, 1) := by decide +kernel
theorem dX3_readOwes_116 : decode cX3_readOwes 116 = .ok (.aload_n 0, 1) := by decide +kernel
theorem dX3_readOwes_117 : decode cX3_readOwes 117 = .ok (.getfield 21, 3) := by decide +kernel
theorem dX3_readOwes_120 : decode cX3_readOwes 120 = .ok (.getfield 161, 3) := by decide +kernel
theorem dX3_readOwes_123 : decode cX3_readOwes 123 = .ok (.iastore, 1) := by decide +kernel
theorem dX3_readOwes_124 : decode cX3_readOwes 124 = .ok (.aload_n 0, 1) := by decide +kernel
theorem dX3_readOwes_125 : decode cX3_readOwes 125 = .ok (.getfield 21, 3) := by decide +kernel
theorem dX3_readOwes_128 : decode cX3_readOwes 128 = .ok (.dup, 1) := by decide +kernel
theorem dX3_readOwes_129 : decode cX3_readOwes 129 = .ok (.getfield 142, 3) := by decide +kernel
theorem dX3_readOwes_132 : decode cX3_readOwes 132 = .ok (.iconst 1, 1) := by decide +kernel
theorem dX3_readOwes_133 : decode cX3_readOwes 133 = .ok (.iadd, 1) := by decide +kernel
theorem dX3_readOwes_134 : decode cX3_readOwes 134 = .ok (.putfield 142, 3) := by decide +kernel
theorem dX3_readOwes_137 : decode cX3_readOwes 137 = .ok (.return_, 1) := by decide +kernel
theorem dX3_readTests_0 : decode cX3_readTests 0 = .ok (.iconst 0, 1) := by decide +kernel
theorem dX3_readTests_1 : decode cX3_readTests 1 = .ok (.istore_n 1, 1) := by decide +kernel
theorem dX3_readTests_2 : decode cX3_readTests 2 = .ok (.iconst 0, 1) := by decide +kernel
theorem dX3_readTests_3 : decode cX3_readTests 3 = .ok (.istore_n 2, 1) := by decide +kernel
theorem dX3_readTests_4 : decode cX3_readTests 4 = .ok (.iload_n 2, 1) := by decide +kernel
theorem dX3_readTests_5 : decode cX3_readTests 5 = .ok (.sipush 1400, 3) := by decide +kernel
theorem dX3_readTests_8 : decode cX3_readTests 8 = .ok (.if_icmp .gt 186, 3) := by decide +kernel
theorem dX3_readTests_11 : decode cX3_readTests 11 = .ok (.aload_n 0, 1) := by decide +kernel
theorem dX3_readTests_12 : decode cX3_readTests 12 = .ok (.getfield 55, 3) := by decide +kernel
theorem dX3_readTests_15 : decode cX3_readTests 15 = .ok (.iconst 2, 1) := by decide +kernel
theorem dX3_readTests_16 : decode cX3_readTests 16 = .ok (.if_icmp .ne 7, 3) := by decide +kernel
theorem dX3_readTests_19 : decode cX3_readTests 19 = .ok (.iconst 1, 1) := by decide +kernel
theorem dX3_readTests_20 : decode cX3_readTests 20 = .ok (.goto 4, 3) := by decide +kernel
theorem dX3_readTests_23 : decode cX3_readTests 23 = .ok (.iconst 0, 1) := by decide +kernel
theorem dX3_readTests_24 : decode cX3_readTests 24 = .ok (.istore_n 3, 1) := by decide +kernel
theorem dX3_readTests_25 : decode cX3_readTests 25 = .ok (.aload_n 0, 1) := by decide +kernel
theorem dX3_readTests_26 : decode cX3_readTests 26 = .ok (.getfield 21, 3) := by decide +kernel
theorem dX3_readTests_29 : decode cX3_readTests 29 = .ok (.iload_n 3, 1) := by decide +kernel
theorem dX3_readTests_30 : decode cX3_readTests 30 = .ok (.ifCond .eq 14, 3) := by decide +kernel
theorem dX3_readTests_33 : decode cX3_readTests 33 = .ok (.aload_n 0, 1) := by decide +kernel
theorem dX3_readTests_34 : decode cX3_readTests 34 = .ok (.iconst 0, 1) := by decide +kernel
theorem dX3_readTests_35 : decode cX3_readTests 35 = .ok (.sipush 999, 3) := by decide +kernel
theorem dX3_readTests_38 : decode cX3_readTests 38 = .ok (.invokevirtual 80, 3) := by decide +kernel
theorem dX3_readTests_41 : decode cX3_readTests 41 = .ok (.goto 13, 3) := by decide +kernel
theorem dX3_readTests_44 : decode cX3_readTests 44 = .ok (.sipush 1000, 3) := by decide +kernel
theorem dX3_readTests_47 : decode cX3_readTests 47 = .ok (.aload_n 0, 1) := by decide +kernel
theorem dX3_readTests_48 : decode cX3_readTests 48 = .ok (.ldc 172, 2) := by decide +kernel
theorem dX3_readTests_50 : decode cX3_readTests 50 = .ok (.invokevirtual 97, 3) := by decide +kernel
theorem dX3_readTests_53 : decode cX3_readTests 53 = .ok (.iadd, 1) := by decide +kernel
theorem dX3_readTests_54 : decode cX3_readTests 54 = .ok (.invokevirtual 174, 3) := by decide +kernel
theorem dX3_readTests_57 : decode cX3_readTests 57 = .ok (.aload_n 0, 1) := by decide +kernel
theorem dX3_readTests_58 : decode cX3_readTests 58 = .ok (.getfield 45, 3) := by decide +kernel
theorem dX3_readTests_61 : decode cX3_readTests 61 = .ok (.ifCond .ne 15, 3) := by decide +kernel
theorem dX3_readTests_64 : decode cX3_readTests 64 = .ok (.iload_n 1, 1) := by decide +kernel
theorem dX3_readTests_65 : decode cX3_readTests 65 = .ok (.ifCond .eq 12, 3) := by decide +kernel
theorem dX3_readTests_68 : decode cX3_readTests 68 = .ok (.aload_n 0, 1) := by decide +kernel
theorem dX3_readTests_69 : decode cX3_readTests 69 = .ok (.getfield 55, 3) := by decide +kernel
theorem dX3_readTests_72 : decode cX3_readTests 72 = .ok (.iconst 3, 1) := by decide +kernel
theorem dX3_readTests_73 : decode cX3_readTests 73 = .ok (.if_icmp .ne 4, 3) := by decide +kernel
theorem dX3_readTests_76 : decode cX3_readTests 76 = .ok (.return_, 1) := by decide +kernel
theorem dX3_readTests_77 : decode cX3_readTests 77 = .ok (.sipush 2000, 3) := by decide +kernel
theorem dX3_readTests_80 : decode cX3_readTests 80 = .ok (.aload_n 0, 1) := by decide +kernel
theorem dX3_readTests_81 : decode cX3_readTests 81 = .ok (.ldc 177, 2) := by decide +kernel
theorem dX3_readTests_83 : decode cX3_readTests 83 = .ok (.invokevirtual 60, 3) := by decide +kernel
theorem dX3_readTests_86 : decode cX3_readTests 86 = .ok (.iadd, 1) := by decide +kernel
theorem dX3_readTests_87 : decode cX3_readTests 87 = .ok (.istore 4, 2) := by decide +kernel
theorem dX3_readTests_89 : decode cX3_readTests 89 = .ok (.iload 4, 2) := by decide +kernel
theorem dX3_readTests_91 : decode cX3_readTests 91 = .ok (.sipush 2000, 3) := by decide +kernel
theorem dX3_readTests_94 : decode cX3_readTests 94 = .ok (.if_icmp .lt 15, 3) := by decide +kernel
theorem dX3_readTests_97 : decode cX3_readTests 97 = .ok (.iload 4, 2) := by decide +kernel
theorem dX3_readTests_99 : decode cX3_readTests 99 = .ok (.sipush 2002, 3) := by decide +kernel
theorem dX3_readTests_102 : decode cX3_readTests 102 = .ok (.if_icmp .gt 7, 3) := by decide +kernel
theorem dX3_readTests_105 : decode cX3_readTests 105 = .ok (.iconst 1, 1) := by decide +kernel
theorem dX3_readTests_106 : decode cX3_readTests 106 = .ok (.goto 4, 3) := by decide +kernel
theorem dX3_readTests_109 : decode cX3_readTests 109 = .ok (.iconst 0, 1) := by decide +kernel
theorem dX3_readTests_110 : decode cX3_readTests 110 = .ok (.istore 5, 2) := by decide +kernel
theorem dX3_readTests_112 : decode cX3_readTests 112 = .ok (.iload 4, 2) := by decide +kernel
theorem dX3_readTests_114 : decode cX3_readTests 114 = .ok (.sipush 2003, 3) := by decide +kernel
theorem dX3_readTests_117 : decode cX3_readTests 117 = .ok (.if_icmp .lt 15, 3) := by decide +kernel
theorem dX3_readTests_120 : decode cX3_readTests 120 = .ok (.iload 4, 2) := by decide +kernel
theorem dX3_readTests_122 : decode cX3_readTests 122 = .ok (.sipush 2005, 3) := by decide +kernel
theorem dX3_readTests_125 : decode cX3_readTests 125 = .ok (.if_icmp .gt 7, 3) := by decide +kernel
theorem dX3_readTests_128 : decode cX3_readTests 128 = .ok (.iconst 1, 1) := by decide +kernel
theorem dX3_readTests_129 : decode cX3_readTests 129 = .ok (.goto 4, 3) := by decide +kernel
theorem dX3_readTests_132 : decode cX3_readTests 132 = .ok (.iconst 0, 1) := by decide +kernel
theorem dX3_readTests_133 : decode cX3_readTests 133 = .ok (.istore 6, 2) := by decide +kernel
theorem dX3_readTests_135 : decode cX3_readTests 135 = .ok (.iload 5, 2) := by decide +kernel
theorem dX3_readTests_137 : decode cX3_readTests 137 = .ok (.ifCond .ne 30, 3) := by decide +kernel
theorem dX3_readTests_140 : decode cX3_readTests 140 = .ok (.iload 6, 2) := by decide +kernel
theorem dX3_readTests_142 : decode cX3_readTests 142 = .ok (.ifCond .eq 7, 3) := by decide +kernel
theorem dX3_readTests_145 : decode cX3_readTests 145 = .ok (.iload_n 1, 1) := by decide +kernel
theorem dX3_readTests_146 : decode cX3_readTests 146 = .ok (.ifCond .eq 21, 3) := by decide +kernel
theorem dX3_readTests_149 : decode cX3_readTests 149 = .ok (.iload 4, 2) := by decide +kernel
theorem dX3_readTests_151 : decode cX3_readTests 151 = .ok (.sipush 2006, 3) := by decide +kernel
theorem dX3_readTests_154 : decode cX3_readTests 154 = .ok (.if_icmp .ne 7, 3) := by decide +kernel
theorem dX3_readTests_157 : decode cX3_readTests 157 = .ok (.iload_n 1, 1) := by decide +kernel
theorem dX3_readTests_158 : decode cX3_readTests 158 = .ok (.ifCond .ne 9, 3) := by decide +kernel
theorem dX3_readTests_161 : decode cX3_readTests 161 = .ok (.aload_n 0, 1) := by decide +kernel
theorem dX3_readTests_162 : decode cX3_readTests 162 = .ok (.iconst 1, 1) := by decide +kernel
theorem dX3_readTests_163 : decode cX3_readTests 163 = .ok (.invokevirtual 89, 3) := by decide +kernel
theorem dX3_readTests_166 : decode cX3_readTests 166 = .ok (.return_, 1) := by decide +kernel
theorem dX3_readTests_167 : decode cX3_readTests 167 = .ok (.iload 5, 2) := by decide +kernel
theorem dX3_readTests_169 : decode cX3_readTests 169 = .ok (.ifCond .ne 6, 3) := by decide +kernel
theorem dX3_readTests_172 : decode cX3_readTests 172 = .ok (.iload 6, 2) := by decide +kernel
theorem dX3_readTests_174 : decode cX3_readTests 174 = .ok (.istore_n 1, 1) := by decide +kernel
theorem dX3_readTests_175 : decode cX3_readTests 175 = .ok (.aload_n 0, 1) := by decide +kernel
theorem dX3_readTests_176 : decode cX3_readTests 176 = .ok (.getfield 21, 3) := by decide +kernel
theorem dX3_readTests_179 : decode cX3_readTests 179 = .ok (.iload 4, 2) := by decide +kernel
theorem dX3_readTests_181 : decode cX3_readTests 181 = .ok (.invokevirtual 174, 3) := by decide +kernel
theorem dX3_readTests_184 : decode cX3_readTests 184 = .ok (.aload_n 0, 1) := by decide +kernel
theorem dX3_readTests_185 : decode cX3_readTests 185 = .ok (.invokevirtual 52, 3) := by decide +kernel
theorem dX3_readTests_188 : decode cX3_readTests 188 = .ok (.iinc 2 1, 3) := by decide +kernel
theorem dX3_readTests_191 : decode cX3_readTests 191 = .ok (.goto (-187), 3) := by decide +kernel
theorem dX3_readTests_194 : decode cX3_readTests 194 = .ok (.return_, 1) := by decide +kernel
theorem dX3_choice_0 : decode cX3_choice 0 = .ok (.aload_n 0, 1) := by decide +kernel
theorem dX3_choice_1 : decode cX3_choice 1 = .ok (.aload_n 1, 1) := by decide +kernel
theorem dX3_choice_2 : decode cX3_choice 2 = .ok (.invokevirtual 60, 3) := by decide +kernel
theorem dX3_choice_5 : decode cX3_choice 5 = .ok (.istore_n 2, 1) := by decide +kernel
theorem dX3_choice_6 : decode cX3_choice 6 = .ok (.iload_n 2, 1) := by decide +kernel
theorem dX3_choice_7 : decode cX3_choice 7 = .ok (.ifCond .ge 8, 3) := by decide +kernel
theorem dX3_choice_10 : decode cX3_choice 10 = .ok (.aload_n 0, 1) := by decide +kernel
theorem dX3_choice_11 : decode cX3_choice 11 = .ok (.iconst 1, 1) := by decide +kernel
theorem dX3_choice_12 : decode cX3_choice 12 = .ok (.invokevirtual 89, 3) := by decide +kernel
theorem dX3_choice_15 : decode cX3_choice 15 = .ok (.aload_n 0, 1) := by decide +kernel
theorem dX3_choice_16 : decode cX3_choice 16 = .ok (.getfield 45, 3) := by decide +kernel
theorem dX3_choice_19 : decode cX3_choice 19 = .ok (.ifCond .eq 5, 3) := by decide +kernel
theorem dX3_choice_22 : decode cX3_choice 22 = .ok (.iconst 0, 1) := by decide +kernel
theorem dX3_choice_23 : decode cX3_choice 23 = .ok (.ireturn, 1) := by decide +kernel
theorem dX3_choice_24 : decode cX3_choice 24 = .ok (.aload_n 0, 1) := by decide +kernel
theorem dX3_choice_25 : decode cX3_choice 25 = .ok (.invokevirtual 52, 3) := by decide +kernel
theorem dX3_choice_28 : decode cX3_choice 28 = .ok (.iload_n 2, 1) := by decide +kernel
theorem dX3_choice_29 : decode cX3_choice 29 = .ok (.ireturn, 1) := by decide +kernel
theorem dX3_takes_0 : decode cX3_takes 0 = .ok (.aload_n 0, 1) := by decide +kernel
theorem dX3_takes_1 : decode cX3_takes 1 = .ok (.getfield 45, 3) := by decide +kernel
theorem dX3_takes_4 : decode cX3_takes 4 = .ok (.ifCond .ne 11, 3) := by decide +kernel
theorem dX3_takes_7 : decode cX3_takes 7 = .ok (.aload_n 0, 1) := by decide +kernel
theorem dX3_takes_8 : decode cX3_takes 8 = .ok (.aload_n 1, 1) := by decide +kernel
theorem dX3_takes_9 : decode cX3_takes 9 = .ok (.invokevirtual 60, 3) := by decide +kernel
theorem dX3_takes_12 : decode cX3_takes 12 = .ok (.ifCond .ge 5, 3) := by decide +kernel
theorem dX3_takes_15 : decode cX3_takes 15 = .ok (.iconst 0, 1) := by decide +kernel
theorem dX3_takes_16 : decode cX3_takes 16 = .ok (.ireturn, 1) := by decide +kernel
theorem dX3_takes_17 : decode cX3_takes 17 = .ok (.aload_n 0, 1) := by decide +kernel
theorem dX3_takes_18 : decode cX3_takes 18 = .ok (.invokevirtual 52, 3) := by decide +kernel
theorem dX3_takes_21 : decode cX3_takes 21 = .ok (.iconst 1, 1) := by decide +kernel
theorem dX3_takes_22 : decode cX3_takes 22 = .ok (.ireturn, 1) := by decide +kernel
theorem dX3_number_0 : decode cX3_number 0 = .ok (.aload_n 0, 1) := by decide +kernel
theorem dX3_number_1 : decode cX3_number 1 = .ok (.getfield 55, 3) := by decide +kernel
theorem dX3_number_4 : decode cX3_number 4 = .ok (.iconst 2, 1) := by decide +kernel
theorem dX3_number_5 : decode cX3_number 5 = .ok (.if_icmp .eq 11, 3) := by decide +kernel
theorem dX3_number_8 : decode cX3_number 8 = .ok (.aload_n 0, 1) := by decide +kernel
theorem dX3_number_9 : decode cX3_number 9 = .ok (.iconst 1, 1) := by decide +kernel
theorem dX3_number_10 : decode cX3_number 10 = .ok (.invokevirtual 89, 3) := by decide +kernel
theorem dX3_number_13 : decode cX3_number 13 = .ok (.goto 24, 3) := by decide +kernel
theorem dX3_number_16 : decode cX3_number 16 = .ok (.aload_n 0, 1) := by decide +kernel
theorem dX3_number_17 : decode cX3_number 17 = .ok (.getfield 136, 3) := by decide +kernel
theorem dX3_number_20 : decode cX3_number 20 = .ok (.iload_n 1, 1) := by decide +kernel
theorem dX3_number_21 : decode cX3_number 21 = .ok (.if_icmp .lt 11, 3) := by decide +kernel
theorem dX3_number_24 : decode cX3_number 24 = .ok (.aload_n 0, 1) := by decide +kernel
theorem dX3_number_25 : decode cX3_number 25 = .ok (.getfield 136, 3) := by decide +kernel
theorem dX3_number_28 : decode cX3_number 28 = .ok (.iload_n 2, 1) := by decide +kernel
theorem dX3_number_29 : decode cX3_number 29 = .ok (.if_icmp .le 8, 3) := by decide +kernel
theorem dX3_number_32 : decode cX3_number 32 = .ok (.aload_n 0, 1) := by decide +kernel
theorem dX3_number_33 : decode cX3_number 33 = .ok (.iconst 2, 1) := by decide +kernel
theorem dX3_number_34 : decode cX3_number 34 = .ok (.invokevirtual 89, 3) := by decide +kernel
theorem dX3_number_37 : decode cX3_number 37 = .ok (.aload_n 0, 1) := by decide +kernel
theorem dX3_number_38 : decode cX3_number 38 = .ok (.getfield 45, 3) := by decide +kernel
theorem dX3_number_41 : decode cX3_number 41 = .ok (.ifCond .eq 5, 3) := by decide +kernel
theorem dX3_number_44 : decode cX3_number 44 = .ok (.iconst 0, 1) := by decide +kernel
theorem dX3_number_45 : decode cX3_number 45 = .ok (.ireturn, 1) := by decide +kernel
theorem dX3_number_46 : decode cX3_number 46 = .ok (.aload_n 0, 1) := by decide +kernel
theorem dX3_number_47 : decode cX3_number 47 = .ok (.getfield 136, 3) := by decide +kernel
theorem dX3_number_50 : decode cX3_number 50 = .ok (.istore_n 3, 1) := by decide +kernel
theorem dX3_number_51 : decode cX3_number 51 = .ok (.aload_n 0, 1) := by decide +kernel
theorem dX3_number_52 : decode cX3_number 52 = .ok (.invokevirtual 52, 3) := by decide +kernel
theorem dX3_number_55 : decode cX3_number 55 = .ok (.iload_n 3, 1) := by decide +kernel
theorem dX3_number_56 : decode cX3_number 56 = .ok (.ireturn, 1) := by decide +kernel
theorem dX3_refuse_0 : decode cX3_refuse 0 = .ok (.aload_n 0, 1) := by decide +kernel
theorem dX3_refuse_1 : decode cX3_refuse 1 = .ok (.getfield 45, 3) := by decide +kernel
theorem dX3_refuse_4 : decode cX3_refuse 4 = .ok (.ifCond .ne 16, 3) := by decide +kernel
theorem dX3_refuse_7 : decode cX3_refuse 7 = .ok (.aload_n 0, 1) := by decide +kernel
theorem dX3_refuse_8 : decode cX3_refuse 8 = .ok (.iload_n 1, 1) := by decide +kernel
theorem dX3_refuse_9 : decode cX3_refuse 9 = .ok (.putfield 45, 3) := by decide +kernel
theorem dX3_refuse_12 : decode cX3_refuse 12 = .ok (.aload_n 0, 1) := by decide +kernel
theorem dX3_refuse_13 : decode cX3_refuse 13 = .ok (.aload_n 0, 1) := by decide +kernel
theorem dX3_refuse_14 : decode cX3_refuse 14 = .ok (.getfield 179, 3) := by decide +kernel
theorem dX3_refuse_17 : decode cX3_refuse 17 = .ok (.putfield 25, 3) := by decide +kernel
theorem dX3_refuse_20 : decode cX3_refuse 20 = .ok (.return_, 1) := by decide +kernel
theorem dX3_advance_0 : decode cX3_advance 0 = .ok (.aload_n 0, 1) := by decide +kernel
theorem dX3_advance_1 : decode cX3_advance 1 = .ok (.getfield 42, 3) := by decide +kernel
theorem dX3_advance_4 : decode cX3_advance 4 = .ok (.aload_n 0, 1) := by decide +kernel
theorem dX3_advance_5 : decode cX3_advance 5 = .ok (.getfield 39, 3) := by decide +kernel
theorem dX3_advance_8 : decode cX3_advance 8 = .ok (.if_icmp .ge 44, 3) := by decide +kernel
theorem dX3_advance_11 : decode cX3_advance 11 = .ok (.aload_n 0, 1) := by decide +kernel
theorem dX3_advance_12 : decode cX3_advance 12 = .ok (.getfield 29, 3) := by decide +kernel
theorem dX3_advance_15 : decode cX3_advance 15 = .ok (.aload_n 0, 1) := by decide +kernel
theorem dX3_advance_16 : decode cX3_advance 16 = .ok (.getfield 42, 3) := by decide +kernel
theorem dX3_advance_19 : decode cX3_advance 19 = .ok (.baload, 1) := by decide +kernel
theorem dX3_advance_20 : decode cX3_advance 20 = .ok (.bipush 32, 2) := by decide +kernel
theorem dX3_advance_22 : decode cX3_advance 22 = .ok (.if_icmp .eq 17, 3) := by decide +kernel
theorem dX3_advance_25 : decode cX3_advance 25 = .ok (.aload_n 0, 1) := by decide +kernel
theorem dX3_advance_26 : decode cX3_advance 26 = .ok (.getfield 29, 3) := by decide +kernel
theorem dX3_advance_29 : decode cX3_advance 29 = .ok (.aload_n 0, 1) := by decide +kernel
theorem dX3_advance_30 : decode cX3_advance 30 = .ok (.getfield 42, 3) := by decide +kernel
theorem dX3_advance_33 : decode cX3_advance 33 = .ok (.baload, 1) := by decide +kernel
theorem dX3_advance_34 : decode cX3_advance 34 = .ok (.bipush 10, 2) := by decide +kernel
theorem dX3_advance_36 : decode cX3_advance 36 = .ok (.if_icmp .ne 16, 3) := by decide +kernel
theorem dX3_advance_39 : decode cX3_advance 39 = .ok (.aload_n 0, 1) := by decide +kernel
theorem dX3_advance_40 : decode cX3_advance 40 = .ok (.dup, 1) := by decide +kernel
theorem dX3_advance_41 : decode cX3_advance 41 = .ok (.getfield 42, 3) := by decide +kernel
theorem dX3_advance_44 : decode cX3_advance 44 = .ok (.iconst 1, 1) := by decide +kernel
theorem dX3_advance_45 : decode cX3_advance 45 = .ok (.iadd, 1) := by decide +kernel
theorem dX3_advance_46 : decode cX3_advance 46 = .ok (.putfield 42, 3) := by decide +kernel
theorem dX3_advance_49 : decode cX3_advance 49 = .ok (.goto (-49), 3) := by decide +kernel
theorem dX3_advance_52 : decode cX3_advance 52 = .ok (.aload_n 0, 1) := by decide +kernel
theorem dX3_advance_53 : decode cX3_advance 53 = .ok (.aload_n 0, 1) := by decide +kernel
theorem dX3_advance_54 : decode cX3_advance 54 = .ok (.getfield 42, 3) := by decide +kernel
theorem dX3_advance_57 : decode cX3_advance 57 = .ok (.putfield 179, 3) := by decide +kernel
theorem dX3_advance_60 : decode cX3_advance 60 = .ok (.aload_n 0, 1) := by decide +kernel
theorem dX3_advance_61 : decode cX3_advance 61 = .ok (.getfield 42, 3) := by decide +kernel
theorem dX3_advance_64 : decode cX3_advance 64 = .ok (.aload_n 0, 1) := by decide +kernel
theorem dX3_advance_65 : decode cX3_advance 65 = .ok (.getfield 39, 3) := by decide +kernel
theorem dX3_advance_68 : decode cX3_advance 68 = .ok (.if_icmp .lt 11, 3) := by decide +kernel
theorem dX3_advance_71 : decode cX3_advance 71 = .ok (.aload_n 0, 1) := by decide +kernel
theorem dX3_advance_72 : decode cX3_advance 72 = .ok (.iconst 0, 1) := by decide +kernel
theorem dX3_advance_73 : decode cX3_advance 73 = .ok (.putfield 55, 3) := by decide +kernel
theorem dX3_advance_76 : decode cX3_advance 76 = .ok (.goto 106, 3) := by decide +kernel
theorem dX3_advance_79 : decode cX3_advance 79 = .ok (.aload_n 0, 1) := by decide +kernel
theorem dX3_advance_80 : decode cX3_advance 80 = .ok (.getfield 29, 3) := by decide +kernel
theorem dX3_advance_83 : decode cX3_advance 83 = .ok (.aload_n 0, 1) := by decide +kernel
theorem dX3_advance_84 : decode cX3_advance 84 = .ok (.getfield 42, 3) := by decide +kernel
theorem dX3_advance_87 : decode cX3_advance 87 = .ok (.baload, 1) := by decide +kernel
theorem dX3_advance_88 : decode cX3_advance 88 = .ok (.bipush 97, 2) := by decide +kernel
theorem dX3_advance_90 : decode cX3_advance 90 = .ok (.if_icmp .lt 24, 3) := by decide +kernel
theorem dX3_advance_93 : decode cX3_advance 93 = .ok (.aload_n 0, 1) := by decide +kernel
theorem dX3_advance_94 : decode cX3_advance 94 = .ok (.getfield 29, 3) := by decide +kernel
theorem dX3_advance_97 : decode cX3_advance 97 = .ok (.aload_n 0, 1) := by decide +kernel
theorem dX3_advance_98 : decode cX3_advance 98 = .ok (.getfield 42, 3) := by decide +kernel
theorem dX3_advance_101 : decode cX3_advance 101 = .ok (.baload, 1) := by decide +kernel
theorem dX3_advance_102 : decode cX3_advance 102 = .ok (.bipush 122, 2) := by decide +kernel
theorem dX3_advance_104 : decode cX3_advance 104 = .ok (.if_icmp .gt 10, 3) := by decide +kernel
theorem dX3_advance_107 : decode cX3_advance 107 = .ok (.aload_n 0, 1) := by decide +kernel
theorem dX3_advance_108 : decode cX3_advance 108 = .ok (.invokevirtual 182, 3) := by decide +kernel
theorem dX3_advance_111 : decode cX3_advance 111 = .ok (.goto 71, 3) := by decide +kernel
theorem dX3_advance_114 : decode cX3_advance 114 = .ok (.aload_n 0, 1) := by decide +kernel
theorem dX3_advance_115 : decode cX3_advance 115 = .ok (.getfield 29, 3) := by decide +kernel
theorem dX3_advance_118 : decode cX3_advance 118 = .ok (.aload_n 0, 1) := by decide +kernel
theorem dX3_advance_119 : decode cX3_advance 119 = .ok (.getfield 42, 3) := by decide +kernel
theorem dX3_advance_122 : decode cX3_advance 122 = .ok (.baload, 1) := by decide +kernel
theorem dX3_advance_123 : decode cX3_advance 123 = .ok (.bipush 48, 2) := by decide +kernel
theorem dX3_advance_125 : decode cX3_advance 125 = .ok (.if_icmp .lt 24, 3) := by decide +kernel
theorem dX3_advance_128 : decode cX3_advance 128 = .ok (.aload_n 0, 1) := by decide +kernel
theorem dX3_advance_129 : decode cX3_advance 129 = .ok (.getfield 29, 3) := by decide +kernel
theorem dX3_advance_132 : decode cX3_advance 132 = .ok (.aload_n 0, 1) := by decide +kernel
theorem dX3_advance_133 : decode cX3_advance 133 = .ok (.getfield 42, 3) := by decide +kernel
theorem dX3_advance_136 : decode cX3_advance 136 = .ok (.baload, 1) := by decide +kernel
theorem dX3_advance_137 : decode cX3_advance 137 = .ok (.bipush 57, 2) := by decide +kernel
theorem dX3_advance_139 : decode cX3_advance 139 = .ok (.if_icmp .gt 10, 3) := by decide +kernel
theorem dX3_advance_142 : decode cX3_advance 142 = .ok (.aload_n 0, 1) := by decide +kernel
theorem dX3_advance_143 : decode cX3_advance 143 = .ok (.invokevirtual 185, 3) := by decide +kernel
theorem dX3_advance_146 : decode cX3_advance 146 = .ok (.goto 36, 3) := by decide +kernel
theorem dX3_advance_149 : decode cX3_advance 149 = .ok (.aload_n 0, 1) := by decide +kernel
theorem dX3_advance_150 : decode cX3_advance 150 = .ok (.aload_n 0, 1) := by decide +kernel
theorem dX3_advance_151 : decode cX3_advance 151 = .ok (.getfield 29, 3) := by decide +kernel
theorem dX3_advance_154 : decode cX3_advance 154 = .ok (.aload_n 0, 1) := by decide +kernel
theorem dX3_advance_155 : decode cX3_advance 155 = .ok (.getfield 42, 3) := by decide +kernel
theorem dX3_advance_158 : decode cX3_advance 158 = .ok (.baload, 1) := by decide +kernel
theorem dX3_advance_159 : decode cX3_advance 159 = .ok (.bipush 59, 2) := by decide +kernel
theorem dX3_advance_161 : decode cX3_advance 161 = .ok (.if_icmp .ne 7, 3) := by decide +kernel
theorem dX3_advance_164 : decode cX3_advance 164 = .ok (.iconst 3, 1) := by decide +kernel
theorem dX3_advance_165 : decode cX3_advance 165 = .ok (.goto 4, 3) := by decide +kernel
theorem dX3_advance_168 : decode cX3_advance 168 = .ok (.iconst 4, 1) := by decide +kernel
theorem dX3_advance_169 : decode cX3_advance 169 = .ok (.putfield 55, 3) := by decide +kernel
theorem dX3_advance_172 : decode cX3_advance 172 = .ok (.aload_n 0, 1) := by decide +kernel
theorem dX3_advance_173 : decode cX3_advance 173 = .ok (.dup, 1) := by decide +kernel
theorem dX3_advance_174 : decode cX3_advance 174 = .ok (.getfield 42, 3) := by decide +kernel
theorem dX3_advance_177 : decode cX3_advance 177 = .ok (.iconst 1, 1) := by decide +kernel
theorem dX3_advance_178 : decode cX3_advance 178 = .ok (.iadd, 1) := by decide +kernel
theorem dX3_advance_179 : decode cX3_advance 179 = .ok (.putfield 42, 3) := by decide +kernel
theorem dX3_advance_182 : decode cX3_advance 182 = .ok (.return_, 1) := by decide +kernel
theorem dX3_takeWord_0 : decode cX3_takeWord 0 = .ok (.aload_n 0, 1) := by decide +kernel
theorem dX3_takeWord_1 : decode cX3_takeWord 1 = .ok (.iconst 1, 1) := by decide +kernel
theorem dX3_takeWord_2 : decode cX3_takeWord 2 = .ok (.putfield 55, 3) := by decide +kernel
theorem dX3_takeWord_5 : decode cX3_takeWord 5 = .ok (.aload_n 0, 1) := by decide +kernel
theorem dX3_takeWord_6 : decode cX3_takeWord 6 = .ok (.getfield 42, 3) := by decide +kernel
theorem dX3_takeWord_9 : decode cX3_takeWord 9 = .ok (.aload_n 0, 1) := by decide +kernel
theorem dX3_takeWord_10 : decode cX3_takeWord 10 = .ok (.getfield 39, 3) := by decide +kernel
theorem dX3_takeWord_13 : decode cX3_takeWord 13 = .ok (.if_icmp .ge 44, 3) := by decide +kernel
theorem dX3_takeWord_16 : decode cX3_takeWord 16 = .ok (.aload_n 0, 1) := by decide +kernel
theorem dX3_takeWord_17 : decode cX3_takeWord 17 = .ok (.getfield 29, 3) := by decide +kernel
theorem dX3_takeWord_20 : decode cX3_takeWord 20 = .ok (.aload_n 0, 1) := by decide +kernel
theorem dX3_takeWord_21 : decode cX3_takeWord 21 = .ok (.getfield 42, 3) := by decide +kernel
theorem dX3_takeWord_24 : decode cX3_takeWord 24 = .ok (.baload, 1) := by decide +kernel
theorem dX3_takeWord_25 : decode cX3_takeWord 25 = .ok (.bipush 97, 2) := by decide +kernel
theorem dX3_takeWord_27 : decode cX3_takeWord 27 = .ok (.if_icmp .lt 30, 3) := by decide +kernel
theorem dX3_takeWord_30 : decode cX3_takeWord 30 = .ok (.aload_n 0, 1) := by decide +kernel
theorem dX3_takeWord_31 : decode cX3_takeWord 31 = .ok (.getfield 29, 3) := by decide +kernel
theorem dX3_takeWord_34 : decode cX3_takeWord 34 = .ok (.aload_n 0, 1) := by decide +kernel
theorem dX3_takeWord_35 : decode cX3_takeWord 35 = .ok (.getfield 42, 3) := by decide +kernel
theorem dX3_takeWord_38 : decode cX3_takeWord 38 = .ok (.baload, 1) := by decide +kernel
theorem dX3_takeWord_39 : decode cX3_takeWord 39 = .ok (.bipush 122, 2) := by decide +kernel
theorem dX3_takeWord_41 : decode cX3_takeWord 41 = .ok (.if_icmp .gt 16, 3) := by decide +kernel
theorem dX3_takeWord_44 : decode cX3_takeWord 44 = .ok (.aload_n 0, 1) := by decide +kernel
theorem dX3_takeWord_45 : decode cX3_takeWord 45 = .ok (.dup, 1) := by decide +kernel
theorem dX3_takeWord_46 : decode cX3_takeWord 46 = .ok (.getfield 42, 3) := by decide +kernel
theorem dX3_takeWord_49 : decode cX3_takeWord 49 = .ok (.iconst 1, 1) := by decide +kernel
theorem dX3_takeWord_50 : decode cX3_takeWord 50 = .ok (.iadd, 1) := by decide +kernel
theorem dX3_takeWord_51 : decode cX3_takeWord 51 = .ok (.putfield 42, 3) := by decide +kernel
theorem dX3_takeWord_54 : decode cX3_takeWord 54 = .ok (.goto (-49), 3) := by decide +kernel
theorem dX3_takeWord_57 : decode cX3_takeWord 57 = .ok (.return_, 1) := by decide +kernel
theorem dX3_takeNumber_0 : decode cX3_takeNumber 0 = .ok (.aload_n 0, 1) := by decide +kernel
theorem dX3_takeNumber_1 : decode cX3_takeNumber 1 = .ok (.iconst 2, 1) := by decide +kernel
theorem dX3_takeNumber_2 : decode cX3_takeNumber 2 = .ok (.putfield 55, 3) := by decide +kernel
theorem dX3_takeNumber_5 : decode cX3_takeNumber 5 = .ok (.aload_n 0, 1) := by decide +kernel
theorem dX3_takeNumber_6 : decode cX3_takeNumber 6 = .ok (.iconst 0, 1) := by decide +kernel
theorem dX3_takeNumber_7 : decode cX3_takeNumber 7 = .ok (.putfield 136, 3) := by decide +kernel
theorem dX3_takeNumber_10 : decode cX3_takeNumber 10 = .ok (.aload_n 0, 1) := by decide +kernel
theorem dX3_takeNumber_11 : decode cX3_takeNumber 11 = .ok (.getfield 42, 3) := by decide +kernel
theorem dX3_takeNumber_14 : decode cX3_takeNumber 14 = .ok (.aload_n 0, 1) := by decide +kernel
theorem dX3_takeNumber_15 : decode cX3_takeNumber 15 = .ok (.getfield 39, 3) := by decide +kernel
theorem dX3_takeNumber_18 : decode cX3_takeNumber 18 = .ok (.if_icmp .ge 73, 3) := by decide +kernel
theorem dX3_takeNumber_21 : decode cX3_takeNumber 21 = .ok (.aload_n 0, 1) := by decide +kernel
theorem dX3_takeNumber_22 : decode cX3_takeNumber 22 = .ok (.getfield 29, 3) := by decide +kernel
theorem dX3_takeNumber_25 : decode cX3_takeNumber 25 = .ok (.aload_n 0, 1) := by decide +kernel
theorem dX3_takeNumber_26 : decode cX3_takeNumber 26 = .ok (.getfield 42, 3) := by decide +kernel
theorem dX3_takeNumber_29 : decode cX3_takeNumber 29 = .ok (.baload, 1) := by decide +kernel
theorem dX3_takeNumber_30 : decode cX3_takeNumber 30 = .ok (.bipush 48, 2) := by decide +kernel
theorem dX3_takeNumber_32 : decode cX3_takeNumber 32 = .ok (.if_icmp .lt 59, 3) := by decide +kernel
theorem dX3_takeNumber_35 : decode cX3_takeNumber 35 = .ok (.aload_n 0, 1) := by decide +kernel
theorem dX3_takeNumber_36 : decode cX3_takeNumber 36 = .ok (.getfield 29, 3) := by decide +kernel
theorem dX3_takeNumber_39 : decode cX3_takeNumber 39 = .ok (.aload_n 0, 1) := by decide +kernel
theorem dX3_takeNumber_40 : decode cX3_takeNumber 40 = .ok (.getfield 42, 3) := by decide +kernel
theorem dX3_takeNumber_43 : decode cX3_takeNumber 43 = .ok (.baload, 1) := by decide +kernel
theorem dX3_takeNumber_44 : decode cX3_takeNumber 44 = .ok (.bipush 57, 2) := by decide +kernel
theorem dX3_takeNumber_46 : decode cX3_takeNumber 46 = .ok (.if_icmp .gt 45, 3) := by decide +kernel
theorem dX3_takeNumber_49 : decode cX3_takeNumber 49 = .ok (.aload_n 0, 1) := by decide +kernel
theorem dX3_takeNumber_50 : decode cX3_takeNumber 50 = .ok (.ldc 188, 2) := by decide +kernel
theorem dX3_takeNumber_52 : decode cX3_takeNumber 52 = .ok (.aload_n 0, 1) := by decide +kernel
theorem dX3_takeNumber_53 : decode cX3_takeNumber 53 = .ok (.getfield 136, 3) := by decide +kernel
theorem dX3_takeNumber_56 : decode cX3_takeNumber 56 = .ok (.bipush 10, 2) := by decide +kernel
theorem dX3_takeNumber_58 : decode cX3_takeNumber 58 = .ok (.imul, 1) := by decide +kernel
theorem dX3_takeNumber_59 : decode cX3_takeNumber 59 = .ok (.aload_n 0, 1) := by decide +kernel
theorem dX3_takeNumber_60 : decode cX3_takeNumber 60 = .ok (.getfield 29, 3) := by decide +kernel
theorem dX3_takeNumber_63 : decode cX3_takeNumber 63 = .ok (.aload_n 0, 1) := by decide +kernel
theorem dX3_takeNumber_64 : decode cX3_takeNumber 64 = .ok (.getfield 42, 3) := by decide +kernel
theorem dX3_takeNumber_67 : decode cX3_takeNumber 67 = .ok (.baload, 1) := by decide +kernel
theorem dX3_takeNumber_68 : decode cX3_takeNumber 68 = .ok (.iadd, 1) := by decide +kernel
theorem dX3_takeNumber_69 : decode cX3_takeNumber 69 = .ok (.bipush 48, 2) := by decide +kernel
theorem dX3_takeNumber_71 : decode cX3_takeNumber 71 = .ok (.isub, 1) := by decide +kernel
theorem dX3_takeNumber_72 : decode cX3_takeNumber 72 = .ok (.invokestatic 33, 3) := by decide +kernel
theorem dX3_takeNumber_75 : decode cX3_takeNumber 75 = .ok (.putfield 136, 3) := by decide +kernel
theorem dX3_takeNumber_78 : decode cX3_takeNumber 78 = .ok (.aload_n 0, 1) := by decide +kernel
theorem dX3_takeNumber_79 : decode cX3_takeNumber 79 = .ok (.dup, 1) := by decide +kernel
theorem dX3_takeNumber_80 : decode cX3_takeNumber 80 = .ok (.getfield 42, 3) := by decide +kernel
theorem dX3_takeNumber_83 : decode cX3_takeNumber 83 = .ok (.iconst 1, 1) := by decide +kernel
theorem dX3_takeNumber_84 : decode cX3_takeNumber 84 = .ok (.iadd, 1) := by decide +kernel
theorem dX3_takeNumber_85 : decode cX3_takeNumber 85 = .ok (.putfield 42, 3) := by decide +kernel
theorem dX3_takeNumber_88 : decode cX3_takeNumber 88 = .ok (.goto (-78), 3) := by decide +kernel
theorem dX3_takeNumber_91 : decode cX3_takeNumber 91 = .ok (.return_, 1) := by decide +kernel
theorem dX3_among_0 : decode cX3_among 0 = .ok (.aload_n 0, 1) := by decide +kernel
theorem dX3_among_1 : decode cX3_among 1 = .ok (.getfield 55, 3) := by decide +kernel
theorem dX3_among_4 : decode cX3_among 4 = .ok (.iconst 1, 1) := by decide +kernel
theorem dX3_among_5 : decode cX3_among 5 = .ok (.if_icmp .eq 5, 3) := by decide +kernel
theorem dX3_among_8 : decode cX3_among 8 = .ok (.iconst (-1), 1) := by decide +kernel
theorem dX3_among_9 : decode cX3_among 9 = .ok (.ireturn, 1) := by decide +kernel
theorem dX3_among_10 : decode cX3_among 10 = .ok (.aload_n 1, 1) := by decide +kernel
theorem dX3_among_11 : decode cX3_among 11 = .ok (.invokevirtual 189, 3) := by decide +kernel
theorem dX3_among_14 : decode cX3_among 14 = .ok (.istore_n 2, 1) := by decide +kernel
theorem dX3_among_15 : decode cX3_among 15 = .ok (.iconst 0, 1) := by decide +kernel
theorem dX3_among_16 : decode cX3_among 16 = .ok (.istore_n 3, 1) := by decide +kernel
theorem dX3_among_17 : decode cX3_among 17 = .ok (.iconst 0, 1) := by decide +kernel
theorem dX3_among_18 : decode cX3_among 18 = .ok (.istore 4, 2) := by decide +kernel
theorem dX3_among_20 : decode cX3_among 20 = .ok (.iload 4, 2) := by decide +kernel
theorem dX3_among_22 : decode cX3_among 22 = .ok (.iload_n 2, 1) := by decide +kernel
theorem dX3_among_23 : decode cX3_among 23 = .ok (.if_icmp .ge 134, 3) := by decide +kernel
theorem dX3_among_26 : decode cX3_among 26 = .ok (.iconst 0, 1) := by decide +kernel
theorem dX3_among_27 : decode cX3_among 27 = .ok (.istore 5, 2) := by decide +kernel
